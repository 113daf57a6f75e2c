abbrev b_Reader_init : ByteArray := prog_4_method_1_code
def y_Reader_init : MethodName := ⟨"RoundAndRound$Reader", "<init>", "()V"⟩
theorem d_Reader_init_0 : decode b_Reader_init 0 = .ok (.aload_n 0, 1) := by decide +kernel
theorem d_Reader_init_1 : decode b_Reader_init 1 = .ok (.invokespecial 5, 3) := by decide +kernel
theorem d_Reader_init_4 : decode b_Reader_init 4 = .ok (.aload_n 0, 1) := by decide +kernel
theorem d_Reader_init_5 : decode b_Reader_init 5 = .ok (.sipush (160), 3) := by decide +kernel
theorem d_Reader_init_8 : decode b_Reader_init 8 = .ok (.newarray .int, 2) := by decide +kernel
theorem d_Reader_init_10 : decode b_Reader_init 10 = .ok (.putfield 11, 3) := by decide +kernel
theorem d_Reader_init_13 : decode b_Reader_init 13 = .ok (.aload_n 0, 1) := by decide +kernel
theorem d_Reader_init_14 : decode b_Reader_init 14 = .ok (.bipush (12), 2) := by decide +kernel
theorem d_Reader_init_16 : decode b_Reader_init 16 = .ok (.newarray .long, 2) := by decide +kernel
theorem d_Reader_init_18 : decode b_Reader_init 18 = .ok (.putfield 15, 3) := by decide +kernel
theorem d_Reader_init_21 : decode b_Reader_init 21 = .ok (.iconst 0, 1) := by decide +kernel
theorem d_Reader_init_22 : decode b_Reader_init 22 = .ok (.istore_n 1, 1) := by decide +kernel
theorem d_Reader_init_23 : decode b_Reader_init 23 = .ok (.iconst 0, 1) := by decide +kernel
theorem d_Reader_init_24 : decode b_Reader_init 24 = .ok (.istore_n 2, 1) := by decide +kernel
theorem d_Reader_init_25 : decode b_Reader_init 25 = .ok (.iload_n 2, 1) := by decide +kernel
theorem d_Reader_init_26 : decode b_Reader_init 26 = .ok (.ldc 19, 2) := by decide +kernel
theorem d_Reader_init_28 : decode b_Reader_init 28 = .ok (.invokevirtual 21, 3) := by decide +kernel
theorem d_Reader_init_31 : decode b_Reader_init 31 = .ok (.if_icmp .ge 65, 3) := by decide +kernel
theorem d_Reader_init_34 : decode b_Reader_init 34 = .ok (.ldc 19, 2) := by decide +kernel
theorem d_Reader_init_36 : decode b_Reader_init 36 = .ok (.iload_n 2, 1) := by decide +kernel
theorem d_Reader_init_37 : decode b_Reader_init 37 = .ok (.invokevirtual 27, 3) := by decide +kernel
theorem d_Reader_init_40 : decode b_Reader_init 40 = .ok (.bipush (32), 2) := by decide +kernel
theorem d_Reader_init_42 : decode b_Reader_init 42 = .ok (.if_icmp .ne 9, 3) := by decide +kernel
theorem d_Reader_init_45 : decode b_Reader_init 45 = .ok (.iinc 1 (1), 3) := by decide +kernel
theorem d_Reader_init_48 : decode b_Reader_init 48 = .ok (.goto 42, 3) := by decide +kernel
theorem d_Reader_init_51 : decode b_Reader_init 51 = .ok (.iload_n 1, 1) := by decide +kernel
theorem d_Reader_init_52 : decode b_Reader_init 52 = .ok (.aload_n 0, 1) := by decide +kernel
theorem d_Reader_init_53 : decode b_Reader_init 53 = .ok (.getfield 15, 3) := by decide +kernel
theorem d_Reader_init_56 : decode b_Reader_init 56 = .ok (.arraylength, 1) := by decide +kernel
theorem d_Reader_init_57 : decode b_Reader_init 57 = .ok (.if_icmp .ge 33, 3) := by decide +kernel
theorem d_Reader_init_60 : decode b_Reader_init 60 = .ok (.aload_n 0, 1) := by decide +kernel
theorem d_Reader_init_61 : decode b_Reader_init 61 = .ok (.getfield 15, 3) := by decide +kernel
theorem d_Reader_init_64 : decode b_Reader_init 64 = .ok (.iload_n 1, 1) := by decide +kernel
theorem d_Reader_init_65 : decode b_Reader_init 65 = .ok (.aload_n 0, 1) := by decide +kernel
theorem d_Reader_init_66 : decode b_Reader_init 66 = .ok (.getfield 15, 3) := by decide +kernel
theorem d_Reader_init_69 : decode b_Reader_init 69 = .ok (.iload_n 1, 1) := by decide +kernel
theorem d_Reader_init_70 : decode b_Reader_init 70 = .ok (.laload, 1) := by decide +kernel
theorem d_Reader_init_71 : decode b_Reader_init 71 = .ok (.ldc2_w 31, 3) := by decide +kernel
theorem d_Reader_init_74 : decode b_Reader_init 74 = .ok (.lmul, 1) := by decide +kernel
theorem d_Reader_init_75 : decode b_Reader_init 75 = .ok (.ldc 19, 2) := by decide +kernel
theorem d_Reader_init_77 : decode b_Reader_init 77 = .ok (.iload_n 2, 1) := by decide +kernel
theorem d_Reader_init_78 : decode b_Reader_init 78 = .ok (.invokevirtual 27, 3) := by decide +kernel
theorem d_Reader_init_81 : decode b_Reader_init 81 = .ok (.i2l, 1) := by decide +kernel
theorem d_Reader_init_82 : decode b_Reader_init 82 = .ok (.ladd, 1) := by decide +kernel
theorem d_Reader_init_83 : decode b_Reader_init 83 = .ok (.ldc2_w 33, 3) := by decide +kernel
theorem d_Reader_init_86 : decode b_Reader_init 86 = .ok (.lsub, 1) := by decide +kernel
theorem d_Reader_init_87 : decode b_Reader_init 87 = .ok (.lconst 1, 1) := by decide +kernel
theorem d_Reader_init_88 : decode b_Reader_init 88 = .ok (.ladd, 1) := by decide +kernel
theorem d_Reader_init_89 : decode b_Reader_init 89 = .ok (.lastore, 1) := by decide +kernel
theorem d_Reader_init_90 : decode b_Reader_init 90 = .ok (.iinc 2 (1), 3) := by decide +kernel
theorem d_Reader_init_93 : decode b_Reader_init 93 = .ok (.goto (-68), 3) := by decide +kernel
theorem d_Reader_init_96 : decode b_Reader_init 96 = .ok (.return_, 1) := by decide +kernel
abbrev b_Reader_take : ByteArray := prog_4_method_2_code
def y_Reader_take : MethodName := ⟨"RoundAndRound$Reader", "take", "(I)V"⟩
theorem d_Reader_take_0 : decode b_Reader_take 0 = .ok (.aload_n 0, 1) := by decide +kernel
theorem d_Reader_take_1 : decode b_Reader_take 1 = .ok (.getfield 35, 3) := by decide +kernel
theorem d_Reader_take_4 : decode b_Reader_take 4 = .ok (.ifCond .lt 35, 3) := by decide +kernel
theorem d_Reader_take_7 : decode b_Reader_take 7 = .ok (.aload_n 0, 1) := by decide +kernel
theorem d_Reader_take_8 : decode b_Reader_take 8 = .ok (.getfield 35, 3) := by decide +kernel
theorem d_Reader_take_11 : decode b_Reader_take 11 = .ok (.aload_n 0, 1) := by decide +kernel
theorem d_Reader_take_12 : decode b_Reader_take 12 = .ok (.getfield 11, 3) := by decide +kernel
theorem d_Reader_take_15 : decode b_Reader_take 15 = .ok (.arraylength, 1) := by decide +kernel
theorem d_Reader_take_16 : decode b_Reader_take 16 = .ok (.if_icmp .ge 23, 3) := by decide +kernel
theorem d_Reader_take_19 : decode b_Reader_take 19 = .ok (.aload_n 0, 1) := by decide +kernel
theorem d_Reader_take_20 : decode b_Reader_take 20 = .ok (.getfield 11, 3) := by decide +kernel
theorem d_Reader_take_23 : decode b_Reader_take 23 = .ok (.aload_n 0, 1) := by decide +kernel
theorem d_Reader_take_24 : decode b_Reader_take 24 = .ok (.getfield 35, 3) := by decide +kernel
theorem d_Reader_take_27 : decode b_Reader_take 27 = .ok (.iload_n 1, 1) := by decide +kernel
theorem d_Reader_take_28 : decode b_Reader_take 28 = .ok (.iastore, 1) := by decide +kernel
theorem d_Reader_take_29 : decode b_Reader_take 29 = .ok (.aload_n 0, 1) := by decide +kernel
theorem d_Reader_take_30 : decode b_Reader_take 30 = .ok (.dup, 1) := by decide +kernel
theorem d_Reader_take_31 : decode b_Reader_take 31 = .ok (.getfield 35, 3) := by decide +kernel
theorem d_Reader_take_34 : decode b_Reader_take 34 = .ok (.iconst 1, 1) := by decide +kernel
theorem d_Reader_take_35 : decode b_Reader_take 35 = .ok (.iadd, 1) := by decide +kernel
theorem d_Reader_take_36 : decode b_Reader_take 36 = .ok (.putfield 35, 3) := by decide +kernel
theorem d_Reader_take_39 : decode b_Reader_take 39 = .ok (.return_, 1) := by decide +kernel
abbrev b_Reader_empty : ByteArray := prog_4_method_3_code
def y_Reader_empty : MethodName := ⟨"RoundAndRound$Reader", "empty", "()V"⟩
theorem d_Reader_empty_0 : decode b_Reader_empty 0 = .ok (.aload_n 0, 1) := by decide +kernel
theorem d_Reader_empty_1 : decode b_Reader_empty 1 = .ok (.iconst 0, 1) := by decide +kernel
theorem d_Reader_empty_2 : decode b_Reader_empty 2 = .ok (.putfield 35, 3) := by decide +kernel
theorem d_Reader_empty_5 : decode b_Reader_empty 5 = .ok (.return_, 1) := by decide +kernel
abbrev b_Reader_byteAt : ByteArray := prog_4_method_4_code
def y_Reader_byteAt : MethodName := ⟨"RoundAndRound$Reader", "byteAt", "(I)I"⟩
theorem d_Reader_byteAt_0 : decode b_Reader_byteAt 0 = .ok (.iload_n 1, 1) := by decide +kernel
theorem d_Reader_byteAt_1 : decode b_Reader_byteAt 1 = .ok (.ifCond .lt 29, 3) := by decide +kernel
theorem d_Reader_byteAt_4 : decode b_Reader_byteAt 4 = .ok (.iload_n 1, 1) := by decide +kernel
theorem d_Reader_byteAt_5 : decode b_Reader_byteAt 5 = .ok (.aload_n 0, 1) := by decide +kernel
theorem d_Reader_byteAt_6 : decode b_Reader_byteAt 6 = .ok (.getfield 35, 3) := by decide +kernel
theorem d_Reader_byteAt_9 : decode b_Reader_byteAt 9 = .ok (.if_icmp .ge 21, 3) := by decide +kernel
theorem d_Reader_byteAt_12 : decode b_Reader_byteAt 12 = .ok (.iload_n 1, 1) := by decide +kernel
theorem d_Reader_byteAt_13 : decode b_Reader_byteAt 13 = .ok (.aload_n 0, 1) := by decide +kernel
theorem d_Reader_byteAt_14 : decode b_Reader_byteAt 14 = .ok (.getfield 11, 3) := by decide +kernel
theorem d_Reader_byteAt_17 : decode b_Reader_byteAt 17 = .ok (.arraylength, 1) := by decide +kernel
theorem d_Reader_byteAt_18 : decode b_Reader_byteAt 18 = .ok (.if_icmp .ge 12, 3) := by decide +kernel
theorem d_Reader_byteAt_21 : decode b_Reader_byteAt 21 = .ok (.aload_n 0, 1) := by decide +kernel
theorem d_Reader_byteAt_22 : decode b_Reader_byteAt 22 = .ok (.getfield 11, 3) := by decide +kernel
theorem d_Reader_byteAt_25 : decode b_Reader_byteAt 25 = .ok (.iload_n 1, 1) := by decide +kernel
theorem d_Reader_byteAt_26 : decode b_Reader_byteAt 26 = .ok (.iaload, 1) := by decide +kernel
theorem d_Reader_byteAt_27 : decode b_Reader_byteAt 27 = .ok (.goto 4, 3) := by decide +kernel
theorem d_Reader_byteAt_30 : decode b_Reader_byteAt 30 = .ok (.iconst (-1), 1) := by decide +kernel
theorem d_Reader_byteAt_31 : decode b_Reader_byteAt 31 = .ok (.ireturn, 1) := by decide +kernel
abbrev b_Reader_read : ByteArray := prog_4_method_5_code
def y_Reader_read : MethodName := ⟨"RoundAndRound$Reader", "read", "(LRoundAndRound$Text;)I"⟩
theorem d_Reader_read_0 : decode b_Reader_read 0 = .ok (.aload_n 1, 1) := by decide +kernel
theorem d_Reader_read_1 : decode b_Reader_read 1 = .ok (.invokevirtual 39, 3) := by decide +kernel
theorem d_Reader_read_4 : decode b_Reader_read 4 = .ok (.aload_n 0, 1) := by decide +kernel
theorem d_Reader_read_5 : decode b_Reader_read 5 = .ok (.iconst 0, 1) := by decide +kernel
theorem d_Reader_read_6 : decode b_Reader_read 6 = .ok (.putfield 44, 3) := by decide +kernel
theorem d_Reader_read_9 : decode b_Reader_read 9 = .ok (.aload_n 0, 1) := by decide +kernel
theorem d_Reader_read_10 : decode b_Reader_read 10 = .ok (.iconst 0, 1) := by decide +kernel
theorem d_Reader_read_11 : decode b_Reader_read 11 = .ok (.putfield 47, 3) := by decide +kernel
theorem d_Reader_read_14 : decode b_Reader_read 14 = .ok (.aload_n 0, 1) := by decide +kernel
theorem d_Reader_read_15 : decode b_Reader_read 15 = .ok (.iconst (-1), 1) := by decide +kernel
theorem d_Reader_read_16 : decode b_Reader_read 16 = .ok (.putfield 50, 3) := by decide +kernel
theorem d_Reader_read_19 : decode b_Reader_read 19 = .ok (.aload_n 0, 1) := by decide +kernel
theorem d_Reader_read_20 : decode b_Reader_read 20 = .ok (.invokevirtual 53, 3) := by decide +kernel
theorem d_Reader_read_23 : decode b_Reader_read 23 = .ok (.iconst 0, 1) := by decide +kernel
theorem d_Reader_read_24 : decode b_Reader_read 24 = .ok (.istore_n 2, 1) := by decide +kernel
theorem d_Reader_read_25 : decode b_Reader_read 25 = .ok (.iload_n 2, 1) := by decide +kernel
theorem d_Reader_read_26 : decode b_Reader_read 26 = .ok (.iconst 3, 1) := by decide +kernel
theorem d_Reader_read_27 : decode b_Reader_read 27 = .ok (.if_icmp .ge 33, 3) := by decide +kernel
theorem d_Reader_read_30 : decode b_Reader_read 30 = .ok (.aload_n 0, 1) := by decide +kernel
theorem d_Reader_read_31 : decode b_Reader_read 31 = .ok (.sipush (128), 3) := by decide +kernel
theorem d_Reader_read_34 : decode b_Reader_read 34 = .ok (.iload_n 2, 1) := by decide +kernel
theorem d_Reader_read_35 : decode b_Reader_read 35 = .ok (.iadd, 1) := by decide +kernel
theorem d_Reader_read_36 : decode b_Reader_read 36 = .ok (.invokevirtual 56, 3) := by decide +kernel
theorem d_Reader_read_39 : decode b_Reader_read 39 = .ok (.aload_n 0, 1) := by decide +kernel
theorem d_Reader_read_40 : decode b_Reader_read 40 = .ok (.aload_n 1, 1) := by decide +kernel
theorem d_Reader_read_41 : decode b_Reader_read 41 = .ok (.invokevirtual 60, 3) := by decide +kernel
theorem d_Reader_read_44 : decode b_Reader_read 44 = .ok (.aload_n 0, 1) := by decide +kernel
theorem d_Reader_read_45 : decode b_Reader_read 45 = .ok (.bipush (59), 2) := by decide +kernel
theorem d_Reader_read_47 : decode b_Reader_read 47 = .ok (.invokevirtual 56, 3) := by decide +kernel
theorem d_Reader_read_50 : decode b_Reader_read 50 = .ok (.aload_n 1, 1) := by decide +kernel
theorem d_Reader_read_51 : decode b_Reader_read 51 = .ok (.invokevirtual 64, 3) := by decide +kernel
theorem d_Reader_read_54 : decode b_Reader_read 54 = .ok (.iinc 2 (1), 3) := by decide +kernel
theorem d_Reader_read_57 : decode b_Reader_read 57 = .ok (.goto (-32), 3) := by decide +kernel
theorem d_Reader_read_60 : decode b_Reader_read 60 = .ok (.aload_n 0, 1) := by decide +kernel
theorem d_Reader_read_61 : decode b_Reader_read 61 = .ok (.iconst 0, 1) := by decide +kernel
theorem d_Reader_read_62 : decode b_Reader_read 62 = .ok (.invokevirtual 56, 3) := by decide +kernel
theorem d_Reader_read_65 : decode b_Reader_read 65 = .ok (.aload_n 0, 1) := by decide +kernel
theorem d_Reader_read_66 : decode b_Reader_read 66 = .ok (.getfield 50, 3) := by decide +kernel
theorem d_Reader_read_69 : decode b_Reader_read 69 = .ok (.ireturn, 1) := by decide +kernel
abbrev b_Reader_failed : ByteArray := prog_4_method_6_code
def y_Reader_failed : MethodName := ⟨"RoundAndRound$Reader", "failed", "()Z"⟩
theorem d_Reader_failed_0 : decode b_Reader_failed 0 = .ok (.aload_n 0, 1) := by decide +kernel
theorem d_Reader_failed_1 : decode b_Reader_failed 1 = .ok (.getfield 50, 3) := by decide +kernel
theorem d_Reader_failed_4 : decode b_Reader_failed 4 = .ok (.ifCond .lt 7, 3) := by decide +kernel
theorem d_Reader_failed_7 : decode b_Reader_failed 7 = .ok (.iconst 1, 1) := by decide +kernel
theorem d_Reader_failed_8 : decode b_Reader_failed 8 = .ok (.goto 4, 3) := by decide +kernel
theorem d_Reader_failed_11 : decode b_Reader_failed 11 = .ok (.iconst 0, 1) := by decide +kernel
theorem d_Reader_failed_12 : decode b_Reader_failed 12 = .ok (.ireturn, 1) := by decide +kernel
abbrev b_Reader_fail : ByteArray := prog_4_method_7_code
def y_Reader_fail : MethodName := ⟨"RoundAndRound$Reader", "fail", "()V"⟩
theorem d_Reader_fail_0 : decode b_Reader_fail 0 = .ok (.aload_n 0, 1) := by decide +kernel
theorem d_Reader_fail_1 : decode b_Reader_fail 1 = .ok (.aload_n 0, 1) := by decide +kernel
theorem d_Reader_fail_2 : decode b_Reader_fail 2 = .ok (.invokevirtual 67, 3) := by decide +kernel
theorem d_Reader_fail_5 : decode b_Reader_fail 5 = .ok (.ifCond .eq 10, 3) := by decide +kernel
theorem d_Reader_fail_8 : decode b_Reader_fail 8 = .ok (.aload_n 0, 1) := by decide +kernel
theorem d_Reader_fail_9 : decode b_Reader_fail 9 = .ok (.getfield 50, 3) := by decide +kernel
theorem d_Reader_fail_12 : decode b_Reader_fail 12 = .ok (.goto 7, 3) := by decide +kernel
theorem d_Reader_fail_15 : decode b_Reader_fail 15 = .ok (.aload_n 0, 1) := by decide +kernel
theorem d_Reader_fail_16 : decode b_Reader_fail 16 = .ok (.getfield 71, 3) := by decide +kernel
theorem d_Reader_fail_19 : decode b_Reader_fail 19 = .ok (.putfield 50, 3) := by decide +kernel
theorem d_Reader_fail_22 : decode b_Reader_fail 22 = .ok (.return_, 1) := by decide +kernel
abbrev b_Reader_expect : ByteArray := prog_4_method_8_code
def y_Reader_expect : MethodName := ⟨"RoundAndRound$Reader", "expect", "(I)V"⟩
theorem d_Reader_expect_0 : decode b_Reader_expect 0 = .ok (.aload_n 0, 1) := by decide +kernel
theorem d_Reader_expect_1 : decode b_Reader_expect 1 = .ok (.getfield 74, 3) := by decide +kernel
theorem d_Reader_expect_4 : decode b_Reader_expect 4 = .ok (.iload_n 1, 1) := by decide +kernel
theorem d_Reader_expect_5 : decode b_Reader_expect 5 = .ok (.if_icmp .eq 7, 3) := by decide +kernel
theorem d_Reader_expect_8 : decode b_Reader_expect 8 = .ok (.aload_n 0, 1) := by decide +kernel
theorem d_Reader_expect_9 : decode b_Reader_expect 9 = .ok (.invokevirtual 77, 3) := by decide +kernel
theorem d_Reader_expect_12 : decode b_Reader_expect 12 = .ok (.aload_n 0, 1) := by decide +kernel
theorem d_Reader_expect_13 : decode b_Reader_expect 13 = .ok (.invokevirtual 67, 3) := by decide +kernel
theorem d_Reader_expect_16 : decode b_Reader_expect 16 = .ok (.ifCond .ne 7, 3) := by decide +kernel
theorem d_Reader_expect_19 : decode b_Reader_expect 19 = .ok (.aload_n 0, 1) := by decide +kernel
theorem d_Reader_expect_20 : decode b_Reader_expect 20 = .ok (.invokevirtual 53, 3) := by decide +kernel
theorem d_Reader_expect_23 : decode b_Reader_expect 23 = .ok (.return_, 1) := by decide +kernel
abbrev b_Reader_at : ByteArray := prog_4_method_9_code
def y_Reader_at : MethodName := ⟨"RoundAndRound$Reader", "at", "(I)Z"⟩
theorem d_Reader_at_0 : decode b_Reader_at 0 = .ok (.aload_n 0, 1) := by decide +kernel
theorem d_Reader_at_1 : decode b_Reader_at 1 = .ok (.invokevirtual 67, 3) := by decide +kernel
theorem d_Reader_at_4 : decode b_Reader_at 4 = .ok (.ifCond .ne 15, 3) := by decide +kernel
theorem d_Reader_at_7 : decode b_Reader_at 7 = .ok (.aload_n 0, 1) := by decide +kernel
theorem d_Reader_at_8 : decode b_Reader_at 8 = .ok (.getfield 74, 3) := by decide +kernel
theorem d_Reader_at_11 : decode b_Reader_at 11 = .ok (.iload_n 1, 1) := by decide +kernel
theorem d_Reader_at_12 : decode b_Reader_at 12 = .ok (.if_icmp .ne 7, 3) := by decide +kernel
theorem d_Reader_at_15 : decode b_Reader_at 15 = .ok (.iconst 1, 1) := by decide +kernel
theorem d_Reader_at_16 : decode b_Reader_at 16 = .ok (.goto 4, 3) := by decide +kernel
theorem d_Reader_at_19 : decode b_Reader_at 19 = .ok (.iconst 0, 1) := by decide +kernel
theorem d_Reader_at_20 : decode b_Reader_at 20 = .ok (.ireturn, 1) := by decide +kernel
abbrev b_Reader_readOr : ByteArray := prog_4_method_10_code
def y_Reader_readOr : MethodName := ⟨"RoundAndRound$Reader", "readOr", "(LRoundAndRound$Text;)V"⟩
theorem d_Reader_readOr_0 : decode b_Reader_readOr 0 = .ok (.aload_n 0, 1) := by decide +kernel
theorem d_Reader_readOr_1 : decode b_Reader_readOr 1 = .ok (.aload_n 1, 1) := by decide +kernel
theorem d_Reader_readOr_2 : decode b_Reader_readOr 2 = .ok (.invokevirtual 80, 3) := by decide +kernel
theorem d_Reader_readOr_5 : decode b_Reader_readOr 5 = .ok (.iconst 0, 1) := by decide +kernel
theorem d_Reader_readOr_6 : decode b_Reader_readOr 6 = .ok (.istore_n 2, 1) := by decide +kernel
theorem d_Reader_readOr_7 : decode b_Reader_readOr 7 = .ok (.iload_n 2, 1) := by decide +kernel
theorem d_Reader_readOr_8 : decode b_Reader_readOr 8 = .ok (.sipush (160), 3) := by decide +kernel
theorem d_Reader_readOr_11 : decode b_Reader_readOr 11 = .ok (.if_icmp .ge 35, 3) := by decide +kernel
theorem d_Reader_readOr_14 : decode b_Reader_readOr 14 = .ok (.aload_n 0, 1) := by decide +kernel
theorem d_Reader_readOr_15 : decode b_Reader_readOr 15 = .ok (.sipush (131), 3) := by decide +kernel
theorem d_Reader_readOr_18 : decode b_Reader_readOr 18 = .ok (.invokevirtual 83, 3) := by decide +kernel
theorem d_Reader_readOr_21 : decode b_Reader_readOr 21 = .ok (.ifCond .eq 25, 3) := by decide +kernel
theorem d_Reader_readOr_24 : decode b_Reader_readOr 24 = .ok (.aload_n 0, 1) := by decide +kernel
theorem d_Reader_readOr_25 : decode b_Reader_readOr 25 = .ok (.invokevirtual 53, 3) := by decide +kernel
theorem d_Reader_readOr_28 : decode b_Reader_readOr 28 = .ok (.aload_n 0, 1) := by decide +kernel
theorem d_Reader_readOr_29 : decode b_Reader_readOr 29 = .ok (.aload_n 1, 1) := by decide +kernel
theorem d_Reader_readOr_30 : decode b_Reader_readOr 30 = .ok (.invokevirtual 80, 3) := by decide +kernel
theorem d_Reader_readOr_33 : decode b_Reader_readOr 33 = .ok (.aload_n 1, 1) := by decide +kernel
theorem d_Reader_readOr_34 : decode b_Reader_readOr 34 = .ok (.sipush (20000), 3) := by decide +kernel
theorem d_Reader_readOr_37 : decode b_Reader_readOr 37 = .ok (.invokevirtual 87, 3) := by decide +kernel
theorem d_Reader_readOr_40 : decode b_Reader_readOr 40 = .ok (.iinc 2 (1), 3) := by decide +kernel
theorem d_Reader_readOr_43 : decode b_Reader_readOr 43 = .ok (.goto (-36), 3) := by decide +kernel
theorem d_Reader_readOr_46 : decode b_Reader_readOr 46 = .ok (.return_, 1) := by decide +kernel
abbrev b_Reader_readAnd : ByteArray := prog_4_method_11_code
def y_Reader_readAnd : MethodName := ⟨"RoundAndRound$Reader", "readAnd", "(LRoundAndRound$Text;)V"⟩
theorem d_Reader_readAnd_0 : decode b_Reader_readAnd 0 = .ok (.aload_n 0, 1) := by decide +kernel
theorem d_Reader_readAnd_1 : decode b_Reader_readAnd 1 = .ok (.aload_n 1, 1) := by decide +kernel
theorem d_Reader_readAnd_2 : decode b_Reader_readAnd 2 = .ok (.invokevirtual 90, 3) := by decide +kernel
theorem d_Reader_readAnd_5 : decode b_Reader_readAnd 5 = .ok (.iconst 0, 1) := by decide +kernel
theorem d_Reader_readAnd_6 : decode b_Reader_readAnd 6 = .ok (.istore_n 2, 1) := by decide +kernel
theorem d_Reader_readAnd_7 : decode b_Reader_readAnd 7 = .ok (.iload_n 2, 1) := by decide +kernel
theorem d_Reader_readAnd_8 : decode b_Reader_readAnd 8 = .ok (.sipush (160), 3) := by decide +kernel
theorem d_Reader_readAnd_11 : decode b_Reader_readAnd 11 = .ok (.if_icmp .ge 35, 3) := by decide +kernel
theorem d_Reader_readAnd_14 : decode b_Reader_readAnd 14 = .ok (.aload_n 0, 1) := by decide +kernel
theorem d_Reader_readAnd_15 : decode b_Reader_readAnd 15 = .ok (.sipush (132), 3) := by decide +kernel
theorem d_Reader_readAnd_18 : decode b_Reader_readAnd 18 = .ok (.invokevirtual 83, 3) := by decide +kernel
theorem d_Reader_readAnd_21 : decode b_Reader_readAnd 21 = .ok (.ifCond .eq 25, 3) := by decide +kernel
theorem d_Reader_readAnd_24 : decode b_Reader_readAnd 24 = .ok (.aload_n 0, 1) := by decide +kernel
theorem d_Reader_readAnd_25 : decode b_Reader_readAnd 25 = .ok (.invokevirtual 53, 3) := by decide +kernel
theorem d_Reader_readAnd_28 : decode b_Reader_readAnd 28 = .ok (.aload_n 0, 1) := by decide +kernel
theorem d_Reader_readAnd_29 : decode b_Reader_readAnd 29 = .ok (.aload_n 1, 1) := by decide +kernel
theorem d_Reader_readAnd_30 : decode b_Reader_readAnd 30 = .ok (.invokevirtual 90, 3) := by decide +kernel
theorem d_Reader_readAnd_33 : decode b_Reader_readAnd 33 = .ok (.aload_n 1, 1) := by decide +kernel
theorem d_Reader_readAnd_34 : decode b_Reader_readAnd 34 = .ok (.sipush (20001), 3) := by decide +kernel
theorem d_Reader_readAnd_37 : decode b_Reader_readAnd 37 = .ok (.invokevirtual 87, 3) := by decide +kernel
theorem d_Reader_readAnd_40 : decode b_Reader_readAnd 40 = .ok (.iinc 2 (1), 3) := by decide +kernel
theorem d_Reader_readAnd_43 : decode b_Reader_readAnd 43 = .ok (.goto (-36), 3) := by decide +kernel
theorem d_Reader_readAnd_46 : decode b_Reader_readAnd 46 = .ok (.return_, 1) := by decide +kernel
abbrev b_Reader_readNot : ByteArray := prog_4_method_12_code
def y_Reader_readNot : MethodName := ⟨"RoundAndRound$Reader", "readNot", "(LRoundAndRound$Text;)V"⟩
theorem d_Reader_readNot_0 : decode b_Reader_readNot 0 = .ok (.aload_n 0, 1) := by decide +kernel
theorem d_Reader_readNot_1 : decode b_Reader_readNot 1 = .ok (.sipush (133), 3) := by decide +kernel
theorem d_Reader_readNot_4 : decode b_Reader_readNot 4 = .ok (.invokevirtual 83, 3) := by decide +kernel
theorem d_Reader_readNot_7 : decode b_Reader_readNot 7 = .ok (.ifCond .eq 33, 3) := by decide +kernel
theorem d_Reader_readNot_10 : decode b_Reader_readNot 10 = .ok (.aload_n 0, 1) := by decide +kernel
theorem d_Reader_readNot_11 : decode b_Reader_readNot 11 = .ok (.invokevirtual 93, 3) := by decide +kernel
theorem d_Reader_readNot_14 : decode b_Reader_readNot 14 = .ok (.ifCond .eq 25, 3) := by decide +kernel
theorem d_Reader_readNot_17 : decode b_Reader_readNot 17 = .ok (.aload_n 0, 1) := by decide +kernel
theorem d_Reader_readNot_18 : decode b_Reader_readNot 18 = .ok (.aload_n 1, 1) := by decide +kernel
theorem d_Reader_readNot_19 : decode b_Reader_readNot 19 = .ok (.invokevirtual 90, 3) := by decide +kernel
theorem d_Reader_readNot_22 : decode b_Reader_readNot 22 = .ok (.aload_n 0, 1) := by decide +kernel
theorem d_Reader_readNot_23 : decode b_Reader_readNot 23 = .ok (.dup, 1) := by decide +kernel
theorem d_Reader_readNot_24 : decode b_Reader_readNot 24 = .ok (.getfield 47, 3) := by decide +kernel
theorem d_Reader_readNot_27 : decode b_Reader_readNot 27 = .ok (.iconst 1, 1) := by decide +kernel
theorem d_Reader_readNot_28 : decode b_Reader_readNot 28 = .ok (.isub, 1) := by decide +kernel
theorem d_Reader_readNot_29 : decode b_Reader_readNot 29 = .ok (.putfield 47, 3) := by decide +kernel
theorem d_Reader_readNot_32 : decode b_Reader_readNot 32 = .ok (.aload_n 1, 1) := by decide +kernel
theorem d_Reader_readNot_33 : decode b_Reader_readNot 33 = .ok (.sipush (30000), 3) := by decide +kernel
theorem d_Reader_readNot_36 : decode b_Reader_readNot 36 = .ok (.invokevirtual 87, 3) := by decide +kernel
theorem d_Reader_readNot_39 : decode b_Reader_readNot 39 = .ok (.return_, 1) := by decide +kernel
theorem d_Reader_readNot_40 : decode b_Reader_readNot 40 = .ok (.aload_n 0, 1) := by decide +kernel
theorem d_Reader_readNot_41 : decode b_Reader_readNot 41 = .ok (.aload_n 1, 1) := by decide +kernel
theorem d_Reader_readNot_42 : decode b_Reader_readNot 42 = .ok (.invokevirtual 96, 3) := by decide +kernel
theorem d_Reader_readNot_45 : decode b_Reader_readNot 45 = .ok (.aload_n 0, 1) := by decide +kernel
theorem d_Reader_readNot_46 : decode b_Reader_readNot 46 = .ok (.bipush (60), 2) := by decide +kernel
theorem d_Reader_readNot_48 : decode b_Reader_readNot 48 = .ok (.invokevirtual 83, 3) := by decide +kernel
theorem d_Reader_readNot_51 : decode b_Reader_readNot 51 = .ok (.ifCond .ne 12, 3) := by decide +kernel
theorem d_Reader_readNot_54 : decode b_Reader_readNot 54 = .ok (.aload_n 0, 1) := by decide +kernel
theorem d_Reader_readNot_55 : decode b_Reader_readNot 55 = .ok (.bipush (61), 2) := by decide +kernel
theorem d_Reader_readNot_57 : decode b_Reader_readNot 57 = .ok (.invokevirtual 83, 3) := by decide +kernel
theorem d_Reader_readNot_60 : decode b_Reader_readNot 60 = .ok (.ifCond .eq 36, 3) := by decide +kernel
theorem d_Reader_readNot_63 : decode b_Reader_readNot 63 = .ok (.aload_n 0, 1) := by decide +kernel
theorem d_Reader_readNot_64 : decode b_Reader_readNot 64 = .ok (.getfield 74, 3) := by decide +kernel
theorem d_Reader_readNot_67 : decode b_Reader_readNot 67 = .ok (.bipush (60), 2) := by decide +kernel
theorem d_Reader_readNot_69 : decode b_Reader_readNot 69 = .ok (.if_icmp .ne 9, 3) := by decide +kernel
theorem d_Reader_readNot_72 : decode b_Reader_readNot 72 = .ok (.sipush (20002), 3) := by decide +kernel
theorem d_Reader_readNot_75 : decode b_Reader_readNot 75 = .ok (.goto 6, 3) := by decide +kernel
theorem d_Reader_readNot_78 : decode b_Reader_readNot 78 = .ok (.sipush (20003), 3) := by decide +kernel
theorem d_Reader_readNot_81 : decode b_Reader_readNot 81 = .ok (.istore_n 2, 1) := by decide +kernel
theorem d_Reader_readNot_82 : decode b_Reader_readNot 82 = .ok (.aload_n 0, 1) := by decide +kernel
theorem d_Reader_readNot_83 : decode b_Reader_readNot 83 = .ok (.invokevirtual 53, 3) := by decide +kernel
theorem d_Reader_readNot_86 : decode b_Reader_readNot 86 = .ok (.aload_n 0, 1) := by decide +kernel
theorem d_Reader_readNot_87 : decode b_Reader_readNot 87 = .ok (.aload_n 1, 1) := by decide +kernel
theorem d_Reader_readNot_88 : decode b_Reader_readNot 88 = .ok (.invokevirtual 96, 3) := by decide +kernel
theorem d_Reader_readNot_91 : decode b_Reader_readNot 91 = .ok (.aload_n 1, 1) := by decide +kernel
theorem d_Reader_readNot_92 : decode b_Reader_readNot 92 = .ok (.iload_n 2, 1) := by decide +kernel
theorem d_Reader_readNot_93 : decode b_Reader_readNot 93 = .ok (.invokevirtual 87, 3) := by decide +kernel
theorem d_Reader_readNot_96 : decode b_Reader_readNot 96 = .ok (.return_, 1) := by decide +kernel
abbrev b_Reader_readSum : ByteArray := prog_4_method_13_code
def y_Reader_readSum : MethodName := ⟨"RoundAndRound$Reader", "readSum", "(LRoundAndRound$Text;)V"⟩
theorem d_Reader_readSum_0 : decode b_Reader_readSum 0 = .ok (.aload_n 0, 1) := by decide +kernel
theorem d_Reader_readSum_1 : decode b_Reader_readSum 1 = .ok (.aload_n 1, 1) := by decide +kernel
theorem d_Reader_readSum_2 : decode b_Reader_readSum 2 = .ok (.invokevirtual 99, 3) := by decide +kernel
theorem d_Reader_readSum_5 : decode b_Reader_readSum 5 = .ok (.iconst 0, 1) := by decide +kernel
theorem d_Reader_readSum_6 : decode b_Reader_readSum 6 = .ok (.istore_n 2, 1) := by decide +kernel
theorem d_Reader_readSum_7 : decode b_Reader_readSum 7 = .ok (.iload_n 2, 1) := by decide +kernel
theorem d_Reader_readSum_8 : decode b_Reader_readSum 8 = .ok (.sipush (160), 3) := by decide +kernel
theorem d_Reader_readSum_11 : decode b_Reader_readSum 11 = .ok (.if_icmp .ge 60, 3) := by decide +kernel
theorem d_Reader_readSum_14 : decode b_Reader_readSum 14 = .ok (.aload_n 0, 1) := by decide +kernel
theorem d_Reader_readSum_15 : decode b_Reader_readSum 15 = .ok (.bipush (43), 2) := by decide +kernel
theorem d_Reader_readSum_17 : decode b_Reader_readSum 17 = .ok (.invokevirtual 83, 3) := by decide +kernel
theorem d_Reader_readSum_20 : decode b_Reader_readSum 20 = .ok (.ifCond .ne 12, 3) := by decide +kernel
theorem d_Reader_readSum_23 : decode b_Reader_readSum 23 = .ok (.aload_n 0, 1) := by decide +kernel
theorem d_Reader_readSum_24 : decode b_Reader_readSum 24 = .ok (.bipush (45), 2) := by decide +kernel
theorem d_Reader_readSum_26 : decode b_Reader_readSum 26 = .ok (.invokevirtual 83, 3) := by decide +kernel
theorem d_Reader_readSum_29 : decode b_Reader_readSum 29 = .ok (.ifCond .eq 42, 3) := by decide +kernel
theorem d_Reader_readSum_32 : decode b_Reader_readSum 32 = .ok (.aload_n 0, 1) := by decide +kernel
theorem d_Reader_readSum_33 : decode b_Reader_readSum 33 = .ok (.getfield 74, 3) := by decide +kernel
theorem d_Reader_readSum_36 : decode b_Reader_readSum 36 = .ok (.bipush (43), 2) := by decide +kernel
theorem d_Reader_readSum_38 : decode b_Reader_readSum 38 = .ok (.if_icmp .ne 9, 3) := by decide +kernel
theorem d_Reader_readSum_41 : decode b_Reader_readSum 41 = .ok (.sipush (20004), 3) := by decide +kernel
theorem d_Reader_readSum_44 : decode b_Reader_readSum 44 = .ok (.goto 6, 3) := by decide +kernel
theorem d_Reader_readSum_47 : decode b_Reader_readSum 47 = .ok (.sipush (20005), 3) := by decide +kernel
theorem d_Reader_readSum_50 : decode b_Reader_readSum 50 = .ok (.istore_n 3, 1) := by decide +kernel
theorem d_Reader_readSum_51 : decode b_Reader_readSum 51 = .ok (.aload_n 0, 1) := by decide +kernel
theorem d_Reader_readSum_52 : decode b_Reader_readSum 52 = .ok (.invokevirtual 53, 3) := by decide +kernel
theorem d_Reader_readSum_55 : decode b_Reader_readSum 55 = .ok (.aload_n 0, 1) := by decide +kernel
theorem d_Reader_readSum_56 : decode b_Reader_readSum 56 = .ok (.aload_n 1, 1) := by decide +kernel
theorem d_Reader_readSum_57 : decode b_Reader_readSum 57 = .ok (.invokevirtual 99, 3) := by decide +kernel
theorem d_Reader_readSum_60 : decode b_Reader_readSum 60 = .ok (.aload_n 1, 1) := by decide +kernel
theorem d_Reader_readSum_61 : decode b_Reader_readSum 61 = .ok (.iload_n 3, 1) := by decide +kernel
theorem d_Reader_readSum_62 : decode b_Reader_readSum 62 = .ok (.invokevirtual 87, 3) := by decide +kernel
theorem d_Reader_readSum_65 : decode b_Reader_readSum 65 = .ok (.iinc 2 (1), 3) := by decide +kernel
theorem d_Reader_readSum_68 : decode b_Reader_readSum 68 = .ok (.goto (-61), 3) := by decide +kernel
theorem d_Reader_readSum_71 : decode b_Reader_readSum 71 = .ok (.return_, 1) := by decide +kernel
abbrev b_Reader_readTerm : ByteArray := prog_4_method_14_code
def y_Reader_readTerm : MethodName := ⟨"RoundAndRound$Reader", "readTerm", "(LRoundAndRound$Text;)V"⟩
theorem d_Reader_readTerm_0 : decode b_Reader_readTerm 0 = .ok (.aload_n 0, 1) := by decide +kernel
theorem d_Reader_readTerm_1 : decode b_Reader_readTerm 1 = .ok (.aload_n 1, 1) := by decide +kernel
theorem d_Reader_readTerm_2 : decode b_Reader_readTerm 2 = .ok (.invokevirtual 102, 3) := by decide +kernel
theorem d_Reader_readTerm_5 : decode b_Reader_readTerm 5 = .ok (.iconst 0, 1) := by decide +kernel
theorem d_Reader_readTerm_6 : decode b_Reader_readTerm 6 = .ok (.istore_n 2, 1) := by decide +kernel
theorem d_Reader_readTerm_7 : decode b_Reader_readTerm 7 = .ok (.iload_n 2, 1) := by decide +kernel
theorem d_Reader_readTerm_8 : decode b_Reader_readTerm 8 = .ok (.sipush (160), 3) := by decide +kernel
theorem d_Reader_readTerm_11 : decode b_Reader_readTerm 11 = .ok (.if_icmp .ge 34, 3) := by decide +kernel
theorem d_Reader_readTerm_14 : decode b_Reader_readTerm 14 = .ok (.aload_n 0, 1) := by decide +kernel
theorem d_Reader_readTerm_15 : decode b_Reader_readTerm 15 = .ok (.bipush (42), 2) := by decide +kernel
theorem d_Reader_readTerm_17 : decode b_Reader_readTerm 17 = .ok (.invokevirtual 83, 3) := by decide +kernel
theorem d_Reader_readTerm_20 : decode b_Reader_readTerm 20 = .ok (.ifCond .eq 25, 3) := by decide +kernel
theorem d_Reader_readTerm_23 : decode b_Reader_readTerm 23 = .ok (.aload_n 0, 1) := by decide +kernel
theorem d_Reader_readTerm_24 : decode b_Reader_readTerm 24 = .ok (.invokevirtual 53, 3) := by decide +kernel
theorem d_Reader_readTerm_27 : decode b_Reader_readTerm 27 = .ok (.aload_n 0, 1) := by decide +kernel
theorem d_Reader_readTerm_28 : decode b_Reader_readTerm 28 = .ok (.aload_n 1, 1) := by decide +kernel
theorem d_Reader_readTerm_29 : decode b_Reader_readTerm 29 = .ok (.invokevirtual 102, 3) := by decide +kernel
theorem d_Reader_readTerm_32 : decode b_Reader_readTerm 32 = .ok (.aload_n 1, 1) := by decide +kernel
theorem d_Reader_readTerm_33 : decode b_Reader_readTerm 33 = .ok (.sipush (20006), 3) := by decide +kernel
theorem d_Reader_readTerm_36 : decode b_Reader_readTerm 36 = .ok (.invokevirtual 87, 3) := by decide +kernel
theorem d_Reader_readTerm_39 : decode b_Reader_readTerm 39 = .ok (.iinc 2 (1), 3) := by decide +kernel
theorem d_Reader_readTerm_42 : decode b_Reader_readTerm 42 = .ok (.goto (-35), 3) := by decide +kernel
theorem d_Reader_readTerm_45 : decode b_Reader_readTerm 45 = .ok (.return_, 1) := by decide +kernel
abbrev b_Reader_readOne : ByteArray := prog_4_method_15_code
def y_Reader_readOne : MethodName := ⟨"RoundAndRound$Reader", "readOne", "(LRoundAndRound$Text;)V"⟩
theorem d_Reader_readOne_0 : decode b_Reader_readOne 0 = .ok (.aload_n 0, 1) := by decide +kernel
theorem d_Reader_readOne_1 : decode b_Reader_readOne 1 = .ok (.invokevirtual 67, 3) := by decide +kernel
theorem d_Reader_readOne_4 : decode b_Reader_readOne 4 = .ok (.ifCond .eq 4, 3) := by decide +kernel
theorem d_Reader_readOne_7 : decode b_Reader_readOne 7 = .ok (.return_, 1) := by decide +kernel
theorem d_Reader_readOne_8 : decode b_Reader_readOne 8 = .ok (.aload_n 0, 1) := by decide +kernel
theorem d_Reader_readOne_9 : decode b_Reader_readOne 9 = .ok (.getfield 74, 3) := by decide +kernel
theorem d_Reader_readOne_12 : decode b_Reader_readOne 12 = .ok (.iconst 1, 1) := by decide +kernel
theorem d_Reader_readOne_13 : decode b_Reader_readOne 13 = .ok (.if_icmp .ne 18, 3) := by decide +kernel
theorem d_Reader_readOne_16 : decode b_Reader_readOne 16 = .ok (.aload_n 1, 1) := by decide +kernel
theorem d_Reader_readOne_17 : decode b_Reader_readOne 17 = .ok (.aload_n 0, 1) := by decide +kernel
theorem d_Reader_readOne_18 : decode b_Reader_readOne 18 = .ok (.getfield 105, 3) := by decide +kernel
theorem d_Reader_readOne_21 : decode b_Reader_readOne 21 = .ok (.invokevirtual 87, 3) := by decide +kernel
theorem d_Reader_readOne_24 : decode b_Reader_readOne 24 = .ok (.aload_n 0, 1) := by decide +kernel
theorem d_Reader_readOne_25 : decode b_Reader_readOne 25 = .ok (.invokevirtual 53, 3) := by decide +kernel
theorem d_Reader_readOne_28 : decode b_Reader_readOne 28 = .ok (.goto 131, 3) := by decide +kernel
theorem d_Reader_readOne_31 : decode b_Reader_readOne 31 = .ok (.aload_n 0, 1) := by decide +kernel
theorem d_Reader_readOne_32 : decode b_Reader_readOne 32 = .ok (.getfield 74, 3) := by decide +kernel
theorem d_Reader_readOne_35 : decode b_Reader_readOne 35 = .ok (.sipush (134), 3) := by decide +kernel
theorem d_Reader_readOne_38 : decode b_Reader_readOne 38 = .ok (.if_icmp .lt 36, 3) := by decide +kernel
theorem d_Reader_readOne_41 : decode b_Reader_readOne 41 = .ok (.aload_n 0, 1) := by decide +kernel
theorem d_Reader_readOne_42 : decode b_Reader_readOne 42 = .ok (.getfield 74, 3) := by decide +kernel
theorem d_Reader_readOne_45 : decode b_Reader_readOne 45 = .ok (.sipush (139), 3) := by decide +kernel
theorem d_Reader_readOne_48 : decode b_Reader_readOne 48 = .ok (.if_icmp .gt 26, 3) := by decide +kernel
theorem d_Reader_readOne_51 : decode b_Reader_readOne 51 = .ok (.aload_n 1, 1) := by decide +kernel
theorem d_Reader_readOne_52 : decode b_Reader_readOne 52 = .ok (.sipush (10000), 3) := by decide +kernel
theorem d_Reader_readOne_55 : decode b_Reader_readOne 55 = .ok (.aload_n 0, 1) := by decide +kernel
theorem d_Reader_readOne_56 : decode b_Reader_readOne 56 = .ok (.getfield 74, 3) := by decide +kernel
theorem d_Reader_readOne_59 : decode b_Reader_readOne 59 = .ok (.iadd, 1) := by decide +kernel
theorem d_Reader_readOne_60 : decode b_Reader_readOne 60 = .ok (.sipush (134), 3) := by decide +kernel
theorem d_Reader_readOne_63 : decode b_Reader_readOne 63 = .ok (.isub, 1) := by decide +kernel
theorem d_Reader_readOne_64 : decode b_Reader_readOne 64 = .ok (.invokevirtual 87, 3) := by decide +kernel
theorem d_Reader_readOne_67 : decode b_Reader_readOne 67 = .ok (.aload_n 0, 1) := by decide +kernel
theorem d_Reader_readOne_68 : decode b_Reader_readOne 68 = .ok (.invokevirtual 53, 3) := by decide +kernel
theorem d_Reader_readOne_71 : decode b_Reader_readOne 71 = .ok (.goto 88, 3) := by decide +kernel
theorem d_Reader_readOne_74 : decode b_Reader_readOne 74 = .ok (.aload_n 0, 1) := by decide +kernel
theorem d_Reader_readOne_75 : decode b_Reader_readOne 75 = .ok (.getfield 74, 3) := by decide +kernel
theorem d_Reader_readOne_78 : decode b_Reader_readOne 78 = .ok (.bipush (45), 2) := by decide +kernel
theorem d_Reader_readOne_80 : decode b_Reader_readOne 80 = .ok (.if_icmp .ne 35, 3) := by decide +kernel
theorem d_Reader_readOne_83 : decode b_Reader_readOne 83 = .ok (.aload_n 0, 1) := by decide +kernel
theorem d_Reader_readOne_84 : decode b_Reader_readOne 84 = .ok (.invokevirtual 93, 3) := by decide +kernel
theorem d_Reader_readOne_87 : decode b_Reader_readOne 87 = .ok (.ifCond .eq 72, 3) := by decide +kernel
theorem d_Reader_readOne_90 : decode b_Reader_readOne 90 = .ok (.aload_n 0, 1) := by decide +kernel
theorem d_Reader_readOne_91 : decode b_Reader_readOne 91 = .ok (.aload_n 1, 1) := by decide +kernel
theorem d_Reader_readOne_92 : decode b_Reader_readOne 92 = .ok (.invokevirtual 102, 3) := by decide +kernel
theorem d_Reader_readOne_95 : decode b_Reader_readOne 95 = .ok (.aload_n 0, 1) := by decide +kernel
theorem d_Reader_readOne_96 : decode b_Reader_readOne 96 = .ok (.dup, 1) := by decide +kernel
theorem d_Reader_readOne_97 : decode b_Reader_readOne 97 = .ok (.getfield 47, 3) := by decide +kernel
theorem d_Reader_readOne_100 : decode b_Reader_readOne 100 = .ok (.iconst 1, 1) := by decide +kernel
theorem d_Reader_readOne_101 : decode b_Reader_readOne 101 = .ok (.isub, 1) := by decide +kernel
theorem d_Reader_readOne_102 : decode b_Reader_readOne 102 = .ok (.putfield 47, 3) := by decide +kernel
theorem d_Reader_readOne_105 : decode b_Reader_readOne 105 = .ok (.aload_n 1, 1) := by decide +kernel
theorem d_Reader_readOne_106 : decode b_Reader_readOne 106 = .ok (.sipush (30001), 3) := by decide +kernel
theorem d_Reader_readOne_109 : decode b_Reader_readOne 109 = .ok (.invokevirtual 87, 3) := by decide +kernel
theorem d_Reader_readOne_112 : decode b_Reader_readOne 112 = .ok (.goto 47, 3) := by decide +kernel
theorem d_Reader_readOne_115 : decode b_Reader_readOne 115 = .ok (.aload_n 0, 1) := by decide +kernel
theorem d_Reader_readOne_116 : decode b_Reader_readOne 116 = .ok (.getfield 74, 3) := by decide +kernel
theorem d_Reader_readOne_119 : decode b_Reader_readOne 119 = .ok (.bipush (40), 2) := by decide +kernel
theorem d_Reader_readOne_121 : decode b_Reader_readOne 121 = .ok (.if_icmp .ne 34, 3) := by decide +kernel
theorem d_Reader_readOne_124 : decode b_Reader_readOne 124 = .ok (.aload_n 0, 1) := by decide +kernel
theorem d_Reader_readOne_125 : decode b_Reader_readOne 125 = .ok (.invokevirtual 93, 3) := by decide +kernel
theorem d_Reader_readOne_128 : decode b_Reader_readOne 128 = .ok (.ifCond .eq 31, 3) := by decide +kernel
theorem d_Reader_readOne_131 : decode b_Reader_readOne 131 = .ok (.aload_n 0, 1) := by decide +kernel
theorem d_Reader_readOne_132 : decode b_Reader_readOne 132 = .ok (.aload_n 1, 1) := by decide +kernel
theorem d_Reader_readOne_133 : decode b_Reader_readOne 133 = .ok (.invokevirtual 60, 3) := by decide +kernel
theorem d_Reader_readOne_136 : decode b_Reader_readOne 136 = .ok (.aload_n 0, 1) := by decide +kernel
theorem d_Reader_readOne_137 : decode b_Reader_readOne 137 = .ok (.dup, 1) := by decide +kernel
theorem d_Reader_readOne_138 : decode b_Reader_readOne 138 = .ok (.getfield 47, 3) := by decide +kernel
theorem d_Reader_readOne_141 : decode b_Reader_readOne 141 = .ok (.iconst 1, 1) := by decide +kernel
theorem d_Reader_readOne_142 : decode b_Reader_readOne 142 = .ok (.isub, 1) := by decide +kernel
theorem d_Reader_readOne_143 : decode b_Reader_readOne 143 = .ok (.putfield 47, 3) := by decide +kernel
theorem d_Reader_readOne_146 : decode b_Reader_readOne 146 = .ok (.aload_n 0, 1) := by decide +kernel
theorem d_Reader_readOne_147 : decode b_Reader_readOne 147 = .ok (.bipush (41), 2) := by decide +kernel
theorem d_Reader_readOne_149 : decode b_Reader_readOne 149 = .ok (.invokevirtual 56, 3) := by decide +kernel
theorem d_Reader_readOne_152 : decode b_Reader_readOne 152 = .ok (.goto 7, 3) := by decide +kernel
theorem d_Reader_readOne_155 : decode b_Reader_readOne 155 = .ok (.aload_n 0, 1) := by decide +kernel
theorem d_Reader_readOne_156 : decode b_Reader_readOne 156 = .ok (.invokevirtual 77, 3) := by decide +kernel
theorem d_Reader_readOne_159 : decode b_Reader_readOne 159 = .ok (.return_, 1) := by decide +kernel
abbrev b_Reader_opened : ByteArray := prog_4_method_16_code
def y_Reader_opened : MethodName := ⟨"RoundAndRound$Reader", "opened", "()Z"⟩
theorem d_Reader_opened_0 : decode b_Reader_opened 0 = .ok (.aload_n 0, 1) := by decide +kernel
theorem d_Reader_opened_1 : decode b_Reader_opened 1 = .ok (.getfield 47, 3) := by decide +kernel
theorem d_Reader_opened_4 : decode b_Reader_opened 4 = .ok (.iconst 5, 1) := by decide +kernel
theorem d_Reader_opened_5 : decode b_Reader_opened 5 = .ok (.if_icmp .lt 9, 3) := by decide +kernel
theorem d_Reader_opened_8 : decode b_Reader_opened 8 = .ok (.aload_n 0, 1) := by decide +kernel
theorem d_Reader_opened_9 : decode b_Reader_opened 9 = .ok (.invokevirtual 77, 3) := by decide +kernel
theorem d_Reader_opened_12 : decode b_Reader_opened 12 = .ok (.iconst 0, 1) := by decide +kernel
theorem d_Reader_opened_13 : decode b_Reader_opened 13 = .ok (.ireturn, 1) := by decide +kernel
theorem d_Reader_opened_14 : decode b_Reader_opened 14 = .ok (.aload_n 0, 1) := by decide +kernel
theorem d_Reader_opened_15 : decode b_Reader_opened 15 = .ok (.dup, 1) := by decide +kernel
theorem d_Reader_opened_16 : decode b_Reader_opened 16 = .ok (.getfield 47, 3) := by decide +kernel
theorem d_Reader_opened_19 : decode b_Reader_opened 19 = .ok (.iconst 1, 1) := by decide +kernel
theorem d_Reader_opened_20 : decode b_Reader_opened 20 = .ok (.iadd, 1) := by decide +kernel
theorem d_Reader_opened_21 : decode b_Reader_opened 21 = .ok (.putfield 47, 3) := by decide +kernel
theorem d_Reader_opened_24 : decode b_Reader_opened 24 = .ok (.aload_n 0, 1) := by decide +kernel
theorem d_Reader_opened_25 : decode b_Reader_opened 25 = .ok (.invokevirtual 53, 3) := by decide +kernel
theorem d_Reader_opened_28 : decode b_Reader_opened 28 = .ok (.iconst 1, 1) := by decide +kernel
theorem d_Reader_opened_29 : decode b_Reader_opened 29 = .ok (.ireturn, 1) := by decide +kernel
abbrev b_Reader_advance : ByteArray := prog_4_method_17_code
def y_Reader_advance : MethodName := ⟨"RoundAndRound$Reader", "advance", "()V"⟩
theorem d_Reader_advance_0 : decode b_Reader_advance 0 = .ok (.iconst 0, 1) := by decide +kernel
theorem d_Reader_advance_1 : decode b_Reader_advance 1 = .ok (.istore_n 1, 1) := by decide +kernel
theorem d_Reader_advance_2 : decode b_Reader_advance 2 = .ok (.iload_n 1, 1) := by decide +kernel
theorem d_Reader_advance_3 : decode b_Reader_advance 3 = .ok (.sipush (160), 3) := by decide +kernel
theorem d_Reader_advance_6 : decode b_Reader_advance 6 = .ok (.if_icmp .ge 33, 3) := by decide +kernel
theorem d_Reader_advance_9 : decode b_Reader_advance 9 = .ok (.aload_n 0, 1) := by decide +kernel
theorem d_Reader_advance_10 : decode b_Reader_advance 10 = .ok (.aload_n 0, 1) := by decide +kernel
theorem d_Reader_advance_11 : decode b_Reader_advance 11 = .ok (.getfield 44, 3) := by decide +kernel
theorem d_Reader_advance_14 : decode b_Reader_advance 14 = .ok (.invokevirtual 108, 3) := by decide +kernel
theorem d_Reader_advance_17 : decode b_Reader_advance 17 = .ok (.invokestatic 112, 3) := by decide +kernel
theorem d_Reader_advance_20 : decode b_Reader_advance 20 = .ok (.ifCond .eq 19, 3) := by decide +kernel
theorem d_Reader_advance_23 : decode b_Reader_advance 23 = .ok (.aload_n 0, 1) := by decide +kernel
theorem d_Reader_advance_24 : decode b_Reader_advance 24 = .ok (.dup, 1) := by decide +kernel
theorem d_Reader_advance_25 : decode b_Reader_advance 25 = .ok (.getfield 44, 3) := by decide +kernel
theorem d_Reader_advance_28 : decode b_Reader_advance 28 = .ok (.iconst 1, 1) := by decide +kernel
theorem d_Reader_advance_29 : decode b_Reader_advance 29 = .ok (.iadd, 1) := by decide +kernel
theorem d_Reader_advance_30 : decode b_Reader_advance 30 = .ok (.putfield 44, 3) := by decide +kernel
theorem d_Reader_advance_33 : decode b_Reader_advance 33 = .ok (.iinc 1 (1), 3) := by decide +kernel
theorem d_Reader_advance_36 : decode b_Reader_advance 36 = .ok (.goto (-34), 3) := by decide +kernel
theorem d_Reader_advance_39 : decode b_Reader_advance 39 = .ok (.aload_n 0, 1) := by decide +kernel
theorem d_Reader_advance_40 : decode b_Reader_advance 40 = .ok (.aload_n 0, 1) := by decide +kernel
theorem d_Reader_advance_41 : decode b_Reader_advance 41 = .ok (.getfield 44, 3) := by decide +kernel
theorem d_Reader_advance_44 : decode b_Reader_advance 44 = .ok (.putfield 71, 3) := by decide +kernel
theorem d_Reader_advance_47 : decode b_Reader_advance 47 = .ok (.aload_n 0, 1) := by decide +kernel
theorem d_Reader_advance_48 : decode b_Reader_advance 48 = .ok (.aload_n 0, 1) := by decide +kernel
theorem d_Reader_advance_49 : decode b_Reader_advance 49 = .ok (.getfield 44, 3) := by decide +kernel
theorem d_Reader_advance_52 : decode b_Reader_advance 52 = .ok (.invokevirtual 108, 3) := by decide +kernel
theorem d_Reader_advance_55 : decode b_Reader_advance 55 = .ok (.istore_n 1, 1) := by decide +kernel
theorem d_Reader_advance_56 : decode b_Reader_advance 56 = .ok (.iload_n 1, 1) := by decide +kernel
theorem d_Reader_advance_57 : decode b_Reader_advance 57 = .ok (.ifCond .ge 11, 3) := by decide +kernel
theorem d_Reader_advance_60 : decode b_Reader_advance 60 = .ok (.aload_n 0, 1) := by decide +kernel
theorem d_Reader_advance_61 : decode b_Reader_advance 61 = .ok (.iconst 0, 1) := by decide +kernel
theorem d_Reader_advance_62 : decode b_Reader_advance 62 = .ok (.putfield 74, 3) := by decide +kernel
theorem d_Reader_advance_65 : decode b_Reader_advance 65 = .ok (.goto 57, 3) := by decide +kernel
theorem d_Reader_advance_68 : decode b_Reader_advance 68 = .ok (.iload_n 1, 1) := by decide +kernel
theorem d_Reader_advance_69 : decode b_Reader_advance 69 = .ok (.invokestatic 115, 3) := by decide +kernel
theorem d_Reader_advance_72 : decode b_Reader_advance 72 = .ok (.ifCond .eq 10, 3) := by decide +kernel
theorem d_Reader_advance_75 : decode b_Reader_advance 75 = .ok (.aload_n 0, 1) := by decide +kernel
theorem d_Reader_advance_76 : decode b_Reader_advance 76 = .ok (.invokevirtual 118, 3) := by decide +kernel
theorem d_Reader_advance_79 : decode b_Reader_advance 79 = .ok (.goto 43, 3) := by decide +kernel
theorem d_Reader_advance_82 : decode b_Reader_advance 82 = .ok (.iload_n 1, 1) := by decide +kernel
theorem d_Reader_advance_83 : decode b_Reader_advance 83 = .ok (.invokestatic 121, 3) := by decide +kernel
theorem d_Reader_advance_86 : decode b_Reader_advance 86 = .ok (.ifCond .eq 10, 3) := by decide +kernel
theorem d_Reader_advance_89 : decode b_Reader_advance 89 = .ok (.aload_n 0, 1) := by decide +kernel
theorem d_Reader_advance_90 : decode b_Reader_advance 90 = .ok (.invokevirtual 124, 3) := by decide +kernel
theorem d_Reader_advance_93 : decode b_Reader_advance 93 = .ok (.goto 29, 3) := by decide +kernel
theorem d_Reader_advance_96 : decode b_Reader_advance 96 = .ok (.aload_n 0, 1) := by decide +kernel
theorem d_Reader_advance_97 : decode b_Reader_advance 97 = .ok (.dup, 1) := by decide +kernel
theorem d_Reader_advance_98 : decode b_Reader_advance 98 = .ok (.getfield 44, 3) := by decide +kernel
theorem d_Reader_advance_101 : decode b_Reader_advance 101 = .ok (.iconst 1, 1) := by decide +kernel
theorem d_Reader_advance_102 : decode b_Reader_advance 102 = .ok (.iadd, 1) := by decide +kernel
theorem d_Reader_advance_103 : decode b_Reader_advance 103 = .ok (.putfield 44, 3) := by decide +kernel
theorem d_Reader_advance_106 : decode b_Reader_advance 106 = .ok (.aload_n 0, 1) := by decide +kernel
theorem d_Reader_advance_107 : decode b_Reader_advance 107 = .ok (.iload_n 1, 1) := by decide +kernel
theorem d_Reader_advance_108 : decode b_Reader_advance 108 = .ok (.invokestatic 127, 3) := by decide +kernel
theorem d_Reader_advance_111 : decode b_Reader_advance 111 = .ok (.ifCond .eq 7, 3) := by decide +kernel
theorem d_Reader_advance_114 : decode b_Reader_advance 114 = .ok (.iload_n 1, 1) := by decide +kernel
theorem d_Reader_advance_115 : decode b_Reader_advance 115 = .ok (.goto 4, 3) := by decide +kernel
theorem d_Reader_advance_118 : decode b_Reader_advance 118 = .ok (.iconst (-1), 1) := by decide +kernel
theorem d_Reader_advance_119 : decode b_Reader_advance 119 = .ok (.putfield 74, 3) := by decide +kernel
theorem d_Reader_advance_122 : decode b_Reader_advance 122 = .ok (.return_, 1) := by decide +kernel
abbrev b_Reader_takeWord : ByteArray := prog_4_method_18_code
def y_Reader_takeWord : MethodName := ⟨"RoundAndRound$Reader", "takeWord", "()V"⟩
theorem d_Reader_takeWord_0 : decode b_Reader_takeWord 0 = .ok (.lconst 0, 1) := by decide +kernel
theorem d_Reader_takeWord_1 : decode b_Reader_takeWord 1 = .ok (.lstore_n 1, 1) := by decide +kernel
theorem d_Reader_takeWord_2 : decode b_Reader_takeWord 2 = .ok (.iconst 0, 1) := by decide +kernel
theorem d_Reader_takeWord_3 : decode b_Reader_takeWord 3 = .ok (.istore_n 3, 1) := by decide +kernel
theorem d_Reader_takeWord_4 : decode b_Reader_takeWord 4 = .ok (.iload_n 3, 1) := by decide +kernel
theorem d_Reader_takeWord_5 : decode b_Reader_takeWord 5 = .ok (.sipush (160), 3) := by decide +kernel
theorem d_Reader_takeWord_8 : decode b_Reader_takeWord 8 = .ok (.if_icmp .ge 67, 3) := by decide +kernel
theorem d_Reader_takeWord_11 : decode b_Reader_takeWord 11 = .ok (.aload_n 0, 1) := by decide +kernel
theorem d_Reader_takeWord_12 : decode b_Reader_takeWord 12 = .ok (.aload_n 0, 1) := by decide +kernel
theorem d_Reader_takeWord_13 : decode b_Reader_takeWord 13 = .ok (.getfield 44, 3) := by decide +kernel
theorem d_Reader_takeWord_16 : decode b_Reader_takeWord 16 = .ok (.invokevirtual 108, 3) := by decide +kernel
theorem d_Reader_takeWord_19 : decode b_Reader_takeWord 19 = .ok (.invokestatic 115, 3) := by decide +kernel
theorem d_Reader_takeWord_22 : decode b_Reader_takeWord 22 = .ok (.ifCond .eq 53, 3) := by decide +kernel
theorem d_Reader_takeWord_25 : decode b_Reader_takeWord 25 = .ok (.iload_n 3, 1) := by decide +kernel
theorem d_Reader_takeWord_26 : decode b_Reader_takeWord 26 = .ok (.bipush (6), 2) := by decide +kernel
theorem d_Reader_takeWord_28 : decode b_Reader_takeWord 28 = .ok (.if_icmp .ge 27, 3) := by decide +kernel
theorem d_Reader_takeWord_31 : decode b_Reader_takeWord 31 = .ok (.lload_n 1, 1) := by decide +kernel
theorem d_Reader_takeWord_32 : decode b_Reader_takeWord 32 = .ok (.ldc2_w 31, 3) := by decide +kernel
theorem d_Reader_takeWord_35 : decode b_Reader_takeWord 35 = .ok (.lmul, 1) := by decide +kernel
theorem d_Reader_takeWord_36 : decode b_Reader_takeWord 36 = .ok (.aload_n 0, 1) := by decide +kernel
theorem d_Reader_takeWord_37 : decode b_Reader_takeWord 37 = .ok (.aload_n 0, 1) := by decide +kernel
theorem d_Reader_takeWord_38 : decode b_Reader_takeWord 38 = .ok (.getfield 44, 3) := by decide +kernel
theorem d_Reader_takeWord_41 : decode b_Reader_takeWord 41 = .ok (.invokevirtual 108, 3) := by decide +kernel
theorem d_Reader_takeWord_44 : decode b_Reader_takeWord 44 = .ok (.i2l, 1) := by decide +kernel
theorem d_Reader_takeWord_45 : decode b_Reader_takeWord 45 = .ok (.ladd, 1) := by decide +kernel
theorem d_Reader_takeWord_46 : decode b_Reader_takeWord 46 = .ok (.ldc2_w 33, 3) := by decide +kernel
theorem d_Reader_takeWord_49 : decode b_Reader_takeWord 49 = .ok (.lsub, 1) := by decide +kernel
theorem d_Reader_takeWord_50 : decode b_Reader_takeWord 50 = .ok (.lconst 1, 1) := by decide +kernel
theorem d_Reader_takeWord_51 : decode b_Reader_takeWord 51 = .ok (.ladd, 1) := by decide +kernel
theorem d_Reader_takeWord_52 : decode b_Reader_takeWord 52 = .ok (.goto 6, 3) := by decide +kernel
theorem d_Reader_takeWord_55 : decode b_Reader_takeWord 55 = .ok (.ldc2_w 130, 3) := by decide +kernel
theorem d_Reader_takeWord_58 : decode b_Reader_takeWord 58 = .ok (.lstore_n 1, 1) := by decide +kernel
theorem d_Reader_takeWord_59 : decode b_Reader_takeWord 59 = .ok (.aload_n 0, 1) := by decide +kernel
theorem d_Reader_takeWord_60 : decode b_Reader_takeWord 60 = .ok (.dup, 1) := by decide +kernel
theorem d_Reader_takeWord_61 : decode b_Reader_takeWord 61 = .ok (.getfield 44, 3) := by decide +kernel
theorem d_Reader_takeWord_64 : decode b_Reader_takeWord 64 = .ok (.iconst 1, 1) := by decide +kernel
theorem d_Reader_takeWord_65 : decode b_Reader_takeWord 65 = .ok (.iadd, 1) := by decide +kernel
theorem d_Reader_takeWord_66 : decode b_Reader_takeWord 66 = .ok (.putfield 44, 3) := by decide +kernel
theorem d_Reader_takeWord_69 : decode b_Reader_takeWord 69 = .ok (.iinc 3 (1), 3) := by decide +kernel
theorem d_Reader_takeWord_72 : decode b_Reader_takeWord 72 = .ok (.goto (-68), 3) := by decide +kernel
theorem d_Reader_takeWord_75 : decode b_Reader_takeWord 75 = .ok (.aload_n 0, 1) := by decide +kernel
theorem d_Reader_takeWord_76 : decode b_Reader_takeWord 76 = .ok (.iconst (-1), 1) := by decide +kernel
theorem d_Reader_takeWord_77 : decode b_Reader_takeWord 77 = .ok (.putfield 74, 3) := by decide +kernel
theorem d_Reader_takeWord_80 : decode b_Reader_takeWord 80 = .ok (.iconst 0, 1) := by decide +kernel
theorem d_Reader_takeWord_81 : decode b_Reader_takeWord 81 = .ok (.istore_n 3, 1) := by decide +kernel
theorem d_Reader_takeWord_82 : decode b_Reader_takeWord 82 = .ok (.iload_n 3, 1) := by decide +kernel
theorem d_Reader_takeWord_83 : decode b_Reader_takeWord 83 = .ok (.aload_n 0, 1) := by decide +kernel
theorem d_Reader_takeWord_84 : decode b_Reader_takeWord 84 = .ok (.getfield 15, 3) := by decide +kernel
theorem d_Reader_takeWord_87 : decode b_Reader_takeWord 87 = .ok (.arraylength, 1) := by decide +kernel
theorem d_Reader_takeWord_88 : decode b_Reader_takeWord 88 = .ok (.if_icmp .ge 36, 3) := by decide +kernel
theorem d_Reader_takeWord_91 : decode b_Reader_takeWord 91 = .ok (.aload_n 0, 1) := by decide +kernel
theorem d_Reader_takeWord_92 : decode b_Reader_takeWord 92 = .ok (.aload_n 0, 1) := by decide +kernel
theorem d_Reader_takeWord_93 : decode b_Reader_takeWord 93 = .ok (.getfield 15, 3) := by decide +kernel
theorem d_Reader_takeWord_96 : decode b_Reader_takeWord 96 = .ok (.iload_n 3, 1) := by decide +kernel
theorem d_Reader_takeWord_97 : decode b_Reader_takeWord 97 = .ok (.laload, 1) := by decide +kernel
theorem d_Reader_takeWord_98 : decode b_Reader_takeWord 98 = .ok (.lload_n 1, 1) := by decide +kernel
theorem d_Reader_takeWord_99 : decode b_Reader_takeWord 99 = .ok (.lcmp, 1) := by decide +kernel
theorem d_Reader_takeWord_100 : decode b_Reader_takeWord 100 = .ok (.ifCond .ne 11, 3) := by decide +kernel
theorem d_Reader_takeWord_103 : decode b_Reader_takeWord 103 = .ok (.sipush (128), 3) := by decide +kernel
theorem d_Reader_takeWord_106 : decode b_Reader_takeWord 106 = .ok (.iload_n 3, 1) := by decide +kernel
theorem d_Reader_takeWord_107 : decode b_Reader_takeWord 107 = .ok (.iadd, 1) := by decide +kernel
theorem d_Reader_takeWord_108 : decode b_Reader_takeWord 108 = .ok (.goto 7, 3) := by decide +kernel
theorem d_Reader_takeWord_111 : decode b_Reader_takeWord 111 = .ok (.aload_n 0, 1) := by decide +kernel
theorem d_Reader_takeWord_112 : decode b_Reader_takeWord 112 = .ok (.getfield 74, 3) := by decide +kernel
theorem d_Reader_takeWord_115 : decode b_Reader_takeWord 115 = .ok (.putfield 74, 3) := by decide +kernel
theorem d_Reader_takeWord_118 : decode b_Reader_takeWord 118 = .ok (.iinc 3 (1), 3) := by decide +kernel
theorem d_Reader_takeWord_121 : decode b_Reader_takeWord 121 = .ok (.goto (-39), 3) := by decide +kernel
theorem d_Reader_takeWord_124 : decode b_Reader_takeWord 124 = .ok (.return_, 1) := by decide +kernel
abbrev b_Reader_takeNumber : ByteArray := prog_4_method_19_code
def y_Reader_takeNumber : MethodName := ⟨"RoundAndRound$Reader", "takeNumber", "()V"⟩
theorem d_Reader_takeNumber_0 : decode b_Reader_takeNumber 0 = .ok (.aload_n 0, 1) := by decide +kernel
theorem d_Reader_takeNumber_1 : decode b_Reader_takeNumber 1 = .ok (.iconst 0, 1) := by decide +kernel
theorem d_Reader_takeNumber_2 : decode b_Reader_takeNumber 2 = .ok (.putfield 105, 3) := by decide +kernel
theorem d_Reader_takeNumber_5 : decode b_Reader_takeNumber 5 = .ok (.iconst 0, 1) := by decide +kernel
theorem d_Reader_takeNumber_6 : decode b_Reader_takeNumber 6 = .ok (.istore_n 1, 1) := by decide +kernel
theorem d_Reader_takeNumber_7 : decode b_Reader_takeNumber 7 = .ok (.iload_n 1, 1) := by decide +kernel
theorem d_Reader_takeNumber_8 : decode b_Reader_takeNumber 8 = .ok (.sipush (160), 3) := by decide +kernel
theorem d_Reader_takeNumber_11 : decode b_Reader_takeNumber 11 = .ok (.if_icmp .ge 68, 3) := by decide +kernel
theorem d_Reader_takeNumber_14 : decode b_Reader_takeNumber 14 = .ok (.aload_n 0, 1) := by decide +kernel
theorem d_Reader_takeNumber_15 : decode b_Reader_takeNumber 15 = .ok (.aload_n 0, 1) := by decide +kernel
theorem d_Reader_takeNumber_16 : decode b_Reader_takeNumber 16 = .ok (.getfield 44, 3) := by decide +kernel
theorem d_Reader_takeNumber_19 : decode b_Reader_takeNumber 19 = .ok (.invokevirtual 108, 3) := by decide +kernel
theorem d_Reader_takeNumber_22 : decode b_Reader_takeNumber 22 = .ok (.invokestatic 121, 3) := by decide +kernel
theorem d_Reader_takeNumber_25 : decode b_Reader_takeNumber 25 = .ok (.ifCond .eq 54, 3) := by decide +kernel
theorem d_Reader_takeNumber_28 : decode b_Reader_takeNumber 28 = .ok (.aload_n 0, 1) := by decide +kernel
theorem d_Reader_takeNumber_29 : decode b_Reader_takeNumber 29 = .ok (.iload_n 1, 1) := by decide +kernel
theorem d_Reader_takeNumber_30 : decode b_Reader_takeNumber 30 = .ok (.iconst 4, 1) := by decide +kernel
theorem d_Reader_takeNumber_31 : decode b_Reader_takeNumber 31 = .ok (.if_icmp .ge 25, 3) := by decide +kernel
theorem d_Reader_takeNumber_34 : decode b_Reader_takeNumber 34 = .ok (.bipush (10), 2) := by decide +kernel
theorem d_Reader_takeNumber_36 : decode b_Reader_takeNumber 36 = .ok (.aload_n 0, 1) := by decide +kernel
theorem d_Reader_takeNumber_37 : decode b_Reader_takeNumber 37 = .ok (.getfield 105, 3) := by decide +kernel
theorem d_Reader_takeNumber_40 : decode b_Reader_takeNumber 40 = .ok (.imul, 1) := by decide +kernel
theorem d_Reader_takeNumber_41 : decode b_Reader_takeNumber 41 = .ok (.aload_n 0, 1) := by decide +kernel
theorem d_Reader_takeNumber_42 : decode b_Reader_takeNumber 42 = .ok (.aload_n 0, 1) := by decide +kernel
theorem d_Reader_takeNumber_43 : decode b_Reader_takeNumber 43 = .ok (.getfield 44, 3) := by decide +kernel
theorem d_Reader_takeNumber_46 : decode b_Reader_takeNumber 46 = .ok (.invokevirtual 108, 3) := by decide +kernel
theorem d_Reader_takeNumber_49 : decode b_Reader_takeNumber 49 = .ok (.iadd, 1) := by decide +kernel
theorem d_Reader_takeNumber_50 : decode b_Reader_takeNumber 50 = .ok (.bipush (48), 2) := by decide +kernel
theorem d_Reader_takeNumber_52 : decode b_Reader_takeNumber 52 = .ok (.isub, 1) := by decide +kernel
theorem d_Reader_takeNumber_53 : decode b_Reader_takeNumber 53 = .ok (.goto 7, 3) := by decide +kernel
theorem d_Reader_takeNumber_56 : decode b_Reader_takeNumber 56 = .ok (.aload_n 0, 1) := by decide +kernel
theorem d_Reader_takeNumber_57 : decode b_Reader_takeNumber 57 = .ok (.getfield 105, 3) := by decide +kernel
theorem d_Reader_takeNumber_60 : decode b_Reader_takeNumber 60 = .ok (.putfield 105, 3) := by decide +kernel
theorem d_Reader_takeNumber_63 : decode b_Reader_takeNumber 63 = .ok (.aload_n 0, 1) := by decide +kernel
theorem d_Reader_takeNumber_64 : decode b_Reader_takeNumber 64 = .ok (.dup, 1) := by decide +kernel
theorem d_Reader_takeNumber_65 : decode b_Reader_takeNumber 65 = .ok (.getfield 44, 3) := by decide +kernel
theorem d_Reader_takeNumber_68 : decode b_Reader_takeNumber 68 = .ok (.iconst 1, 1) := by decide +kernel
theorem d_Reader_takeNumber_69 : decode b_Reader_takeNumber 69 = .ok (.iadd, 1) := by decide +kernel
theorem d_Reader_takeNumber_70 : decode b_Reader_takeNumber 70 = .ok (.putfield 44, 3) := by decide +kernel
theorem d_Reader_takeNumber_73 : decode b_Reader_takeNumber 73 = .ok (.iinc 1 (1), 3) := by decide +kernel
theorem d_Reader_takeNumber_76 : decode b_Reader_takeNumber 76 = .ok (.goto (-69), 3) := by decide +kernel
theorem d_Reader_takeNumber_79 : decode b_Reader_takeNumber 79 = .ok (.aload_n 0, 1) := by decide +kernel
theorem d_Reader_takeNumber_80 : decode b_Reader_takeNumber 80 = .ok (.aload_n 0, 1) := by decide +kernel
theorem d_Reader_takeNumber_81 : decode b_Reader_takeNumber 81 = .ok (.getfield 44, 3) := by decide +kernel
theorem d_Reader_takeNumber_84 : decode b_Reader_takeNumber 84 = .ok (.aload_n 0, 1) := by decide +kernel
theorem d_Reader_takeNumber_85 : decode b_Reader_takeNumber 85 = .ok (.getfield 71, 3) := by decide +kernel
theorem d_Reader_takeNumber_88 : decode b_Reader_takeNumber 88 = .ok (.isub, 1) := by decide +kernel
theorem d_Reader_takeNumber_89 : decode b_Reader_takeNumber 89 = .ok (.iconst 4, 1) := by decide +kernel
theorem d_Reader_takeNumber_90 : decode b_Reader_takeNumber 90 = .ok (.if_icmp .le 7, 3) := by decide +kernel
theorem d_Reader_takeNumber_93 : decode b_Reader_takeNumber 93 = .ok (.iconst (-1), 1) := by decide +kernel
theorem d_Reader_takeNumber_94 : decode b_Reader_takeNumber 94 = .ok (.goto 4, 3) := by decide +kernel
theorem d_Reader_takeNumber_97 : decode b_Reader_takeNumber 97 = .ok (.iconst 1, 1) := by decide +kernel
theorem d_Reader_takeNumber_98 : decode b_Reader_takeNumber 98 = .ok (.putfield 74, 3) := by decide +kernel
theorem d_Reader_takeNumber_101 : decode b_Reader_takeNumber 101 = .ok (.return_, 1) := by decide +kernel
abbrev b_Reader_isBlank : ByteArray := prog_4_method_20_code
def y_Reader_isBlank : MethodName := ⟨"RoundAndRound$Reader", "isBlank", "(I)Z"⟩
theorem d_Reader_isBlank_0 : decode b_Reader_isBlank 0 = .ok (.iload_n 0, 1) := by decide +kernel
theorem d_Reader_isBlank_1 : decode b_Reader_isBlank 1 = .ok (.bipush (32), 2) := by decide +kernel
theorem d_Reader_isBlank_3 : decode b_Reader_isBlank 3 = .ok (.if_icmp .eq 9, 3) := by decide +kernel
theorem d_Reader_isBlank_6 : decode b_Reader_isBlank 6 = .ok (.iload_n 0, 1) := by decide +kernel
theorem d_Reader_isBlank_7 : decode b_Reader_isBlank 7 = .ok (.bipush (10), 2) := by decide +kernel
theorem d_Reader_isBlank_9 : decode b_Reader_isBlank 9 = .ok (.if_icmp .ne 7, 3) := by decide +kernel
theorem d_Reader_isBlank_12 : decode b_Reader_isBlank 12 = .ok (.iconst 1, 1) := by decide +kernel
theorem d_Reader_isBlank_13 : decode b_Reader_isBlank 13 = .ok (.goto 4, 3) := by decide +kernel
theorem d_Reader_isBlank_16 : decode b_Reader_isBlank 16 = .ok (.iconst 0, 1) := by decide +kernel
theorem d_Reader_isBlank_17 : decode b_Reader_isBlank 17 = .ok (.ireturn, 1) := by decide +kernel
abbrev b_Reader_isLetter : ByteArray := prog_4_method_21_code
def y_Reader_isLetter : MethodName := ⟨"RoundAndRound$Reader", "isLetter", "(I)Z"⟩
theorem d_Reader_isLetter_0 : decode b_Reader_isLetter 0 = .ok (.iload_n 0, 1) := by decide +kernel
theorem d_Reader_isLetter_1 : decode b_Reader_isLetter 1 = .ok (.bipush (97), 2) := by decide +kernel
theorem d_Reader_isLetter_3 : decode b_Reader_isLetter 3 = .ok (.if_icmp .lt 13, 3) := by decide +kernel
theorem d_Reader_isLetter_6 : decode b_Reader_isLetter 6 = .ok (.iload_n 0, 1) := by decide +kernel
theorem d_Reader_isLetter_7 : decode b_Reader_isLetter 7 = .ok (.bipush (122), 2) := by decide +kernel
theorem d_Reader_isLetter_9 : decode b_Reader_isLetter 9 = .ok (.if_icmp .gt 7, 3) := by decide +kernel
theorem d_Reader_isLetter_12 : decode b_Reader_isLetter 12 = .ok (.iconst 1, 1) := by decide +kernel
theorem d_Reader_isLetter_13 : decode b_Reader_isLetter 13 = .ok (.goto 4, 3) := by decide +kernel
theorem d_Reader_isLetter_16 : decode b_Reader_isLetter 16 = .ok (.iconst 0, 1) := by decide +kernel
theorem d_Reader_isLetter_17 : decode b_Reader_isLetter 17 = .ok (.ireturn, 1) := by decide +kernel
abbrev b_Reader_isDigit : ByteArray := prog_4_method_22_code
def y_Reader_isDigit : MethodName := ⟨"RoundAndRound$Reader", "isDigit", "(I)Z"⟩
theorem d_Reader_isDigit_0 : decode b_Reader_isDigit 0 = .ok (.iload_n 0, 1) := by decide +kernel
theorem d_Reader_isDigit_1 : decode b_Reader_isDigit 1 = .ok (.bipush (48), 2) := by decide +kernel
theorem d_Reader_isDigit_3 : decode b_Reader_isDigit 3 = .ok (.if_icmp .lt 13, 3) := by decide +kernel
theorem d_Reader_isDigit_6 : decode b_Reader_isDigit 6 = .ok (.iload_n 0, 1) := by decide +kernel
theorem d_Reader_isDigit_7 : decode b_Reader_isDigit 7 = .ok (.bipush (57), 2) := by decide +kernel
theorem d_Reader_isDigit_9 : decode b_Reader_isDigit 9 = .ok (.if_icmp .gt 7, 3) := by decide +kernel
theorem d_Reader_isDigit_12 : decode b_Reader_isDigit 12 = .ok (.iconst 1, 1) := by decide +kernel
theorem d_Reader_isDigit_13 : decode b_Reader_isDigit 13 = .ok (.goto 4, 3) := by decide +kernel
theorem d_Reader_isDigit_16 : decode b_Reader_isDigit 16 = .ok (.iconst 0, 1) := by decide +kernel
theorem d_Reader_isDigit_17 : decode b_Reader_isDigit 17 = .ok (.ireturn, 1) := by decide +kernel
abbrev b_Reader_isSign : ByteArray := prog_4_method_23_code
def y_Reader_isSign : MethodName := ⟨"RoundAndRound$Reader", "isSign", "(I)Z"⟩
theorem d_Reader_isSign_0 : decode b_Reader_isSign 0 = .ok (.iload_n 0, 1) := by decide +kernel
theorem d_Reader_isSign_1 : decode b_Reader_isSign 1 = .ok (.bipush (40), 2) := by decide +kernel
theorem d_Reader_isSign_3 : decode b_Reader_isSign 3 = .ok (.if_icmp .eq 45, 3) := by decide +kernel
theorem d_Reader_isSign_6 : decode b_Reader_isSign 6 = .ok (.iload_n 0, 1) := by decide +kernel
theorem d_Reader_isSign_7 : decode b_Reader_isSign 7 = .ok (.bipush (41), 2) := by decide +kernel
theorem d_Reader_isSign_9 : decode b_Reader_isSign 9 = .ok (.if_icmp .eq 39, 3) := by decide +kernel
theorem d_Reader_isSign_12 : decode b_Reader_isSign 12 = .ok (.iload_n 0, 1) := by decide +kernel
theorem d_Reader_isSign_13 : decode b_Reader_isSign 13 = .ok (.bipush (59), 2) := by decide +kernel
theorem d_Reader_isSign_15 : decode b_Reader_isSign 15 = .ok (.if_icmp .eq 33, 3) := by decide +kernel
theorem d_Reader_isSign_18 : decode b_Reader_isSign 18 = .ok (.iload_n 0, 1) := by decide +kernel
theorem d_Reader_isSign_19 : decode b_Reader_isSign 19 = .ok (.bipush (43), 2) := by decide +kernel
theorem d_Reader_isSign_21 : decode b_Reader_isSign 21 = .ok (.if_icmp .eq 27, 3) := by decide +kernel
theorem d_Reader_isSign_24 : decode b_Reader_isSign 24 = .ok (.iload_n 0, 1) := by decide +kernel
theorem d_Reader_isSign_25 : decode b_Reader_isSign 25 = .ok (.bipush (45), 2) := by decide +kernel
theorem d_Reader_isSign_27 : decode b_Reader_isSign 27 = .ok (.if_icmp .eq 21, 3) := by decide +kernel
theorem d_Reader_isSign_30 : decode b_Reader_isSign 30 = .ok (.iload_n 0, 1) := by decide +kernel
theorem d_Reader_isSign_31 : decode b_Reader_isSign 31 = .ok (.bipush (42), 2) := by decide +kernel
theorem d_Reader_isSign_33 : decode b_Reader_isSign 33 = .ok (.if_icmp .eq 15, 3) := by decide +kernel
theorem d_Reader_isSign_36 : decode b_Reader_isSign 36 = .ok (.iload_n 0, 1) := by decide +kernel
theorem d_Reader_isSign_37 : decode b_Reader_isSign 37 = .ok (.bipush (60), 2) := by decide +kernel
theorem d_Reader_isSign_39 : decode b_Reader_isSign 39 = .ok (.if_icmp .eq 9, 3) := by decide +kernel
theorem d_Reader_isSign_42 : decode b_Reader_isSign 42 = .ok (.iload_n 0, 1) := by decide +kernel
theorem d_Reader_isSign_43 : decode b_Reader_isSign 43 = .ok (.bipush (61), 2) := by decide +kernel
theorem d_Reader_isSign_45 : decode b_Reader_isSign 45 = .ok (.if_icmp .ne 7, 3) := by decide +kernel
theorem d_Reader_isSign_48 : decode b_Reader_isSign 48 = .ok (.iconst 1, 1) := by decide +kernel
theorem d_Reader_isSign_49 : decode b_Reader_isSign 49 = .ok (.goto 4, 3) := by decide +kernel
theorem d_Reader_isSign_52 : decode b_Reader_isSign 52 = .ok (.iconst 0, 1) := by decide +kernel
theorem d_Reader_isSign_53 : decode b_Reader_isSign 53 = .ok (.ireturn, 1) := by decide +kernel
