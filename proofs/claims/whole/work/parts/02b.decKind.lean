abbrev b_Kind_isOne : ByteArray := prog_3_method_2_code
def y_Kind_isOne : MethodName := ⟨"RoundAndRound$Kind", "isOne", "(II)Z"⟩
theorem d_Kind_isOne_0 : decode b_Kind_isOne 0 = .ok (.iload_n 1, 1) := by decide +kernel
theorem d_Kind_isOne_1 : decode b_Kind_isOne 1 = .ok (.iload_n 0, 1) := by decide +kernel
theorem d_Kind_isOne_2 : decode b_Kind_isOne 2 = .ok (.if_icmp .eq 15, 3) := by decide +kernel
theorem d_Kind_isOne_5 : decode b_Kind_isOne 5 = .ok (.iload_n 1, 1) := by decide +kernel
theorem d_Kind_isOne_6 : decode b_Kind_isOne 6 = .ok (.ifCond .eq 11, 3) := by decide +kernel
theorem d_Kind_isOne_9 : decode b_Kind_isOne 9 = .ok (.iload_n 1, 1) := by decide +kernel
theorem d_Kind_isOne_10 : decode b_Kind_isOne 10 = .ok (.iload_n 0, 1) := by decide +kernel
theorem d_Kind_isOne_11 : decode b_Kind_isOne 11 = .ok (.invokestatic 9, 3) := by decide +kernel
theorem d_Kind_isOne_14 : decode b_Kind_isOne 14 = .ok (.if_icmp .ne 7, 3) := by decide +kernel
theorem d_Kind_isOne_17 : decode b_Kind_isOne 17 = .ok (.iconst 1, 1) := by decide +kernel
theorem d_Kind_isOne_18 : decode b_Kind_isOne 18 = .ok (.goto 4, 3) := by decide +kernel
theorem d_Kind_isOne_21 : decode b_Kind_isOne 21 = .ok (.iconst 0, 1) := by decide +kernel
theorem d_Kind_isOne_22 : decode b_Kind_isOne 22 = .ok (.ireturn, 1) := by decide +kernel
abbrev b_Kind_above : ByteArray := prog_3_method_3_code
def y_Kind_above : MethodName := ⟨"RoundAndRound$Kind", "above", "(I)I"⟩
theorem d_Kind_above_0 : decode b_Kind_above 0 = .ok (.iload_n 0, 1) := by decide +kernel
theorem d_Kind_above_1 : decode b_Kind_above 1 = .ok (.iconst 3, 1) := by decide +kernel
theorem d_Kind_above_2 : decode b_Kind_above 2 = .ok (.if_icmp .ne 7, 3) := by decide +kernel
theorem d_Kind_above_5 : decode b_Kind_above 5 = .ok (.iconst 1, 1) := by decide +kernel
theorem d_Kind_above_6 : decode b_Kind_above 6 = .ok (.goto 13, 3) := by decide +kernel
theorem d_Kind_above_9 : decode b_Kind_above 9 = .ok (.iload_n 0, 1) := by decide +kernel
theorem d_Kind_above_10 : decode b_Kind_above 10 = .ok (.iconst 4, 1) := by decide +kernel
theorem d_Kind_above_11 : decode b_Kind_above 11 = .ok (.if_icmp .ne 7, 3) := by decide +kernel
theorem d_Kind_above_14 : decode b_Kind_above 14 = .ok (.iconst 2, 1) := by decide +kernel
theorem d_Kind_above_15 : decode b_Kind_above 15 = .ok (.goto 4, 3) := by decide +kernel
theorem d_Kind_above_18 : decode b_Kind_above 18 = .ok (.iconst 0, 1) := by decide +kernel
theorem d_Kind_above_19 : decode b_Kind_above 19 = .ok (.ireturn, 1) := by decide +kernel
abbrev b_Kind_builds : ByteArray := prog_3_method_4_code
def y_Kind_builds : MethodName := ⟨"RoundAndRound$Kind", "builds", "(IIII)I"⟩
theorem d_Kind_builds_0 : decode b_Kind_builds 0 = .ok (.iload_n 0, 1) := by decide +kernel
theorem d_Kind_builds_1 : decode b_Kind_builds 1 = .ok (.tableswitch 72 (1) (5) #[35, 56, 39, 56, 66], 35) := by decide +kernel
theorem d_Kind_builds_36 : decode b_Kind_builds 36 = .ok (.iload_n 1, 1) := by decide +kernel
theorem d_Kind_builds_37 : decode b_Kind_builds 37 = .ok (.iconst 2, 1) := by decide +kernel
theorem d_Kind_builds_38 : decode b_Kind_builds 38 = .ok (.idiv, 1) := by decide +kernel
theorem d_Kind_builds_39 : decode b_Kind_builds 39 = .ok (.ireturn, 1) := by decide +kernel
theorem d_Kind_builds_40 : decode b_Kind_builds 40 = .ok (.iload_n 2, 1) := by decide +kernel
theorem d_Kind_builds_41 : decode b_Kind_builds 41 = .ok (.iconst 4, 1) := by decide +kernel
theorem d_Kind_builds_42 : decode b_Kind_builds 42 = .ok (.if_icmp .le 11, 3) := by decide +kernel
theorem d_Kind_builds_45 : decode b_Kind_builds 45 = .ok (.iload_n 1, 1) := by decide +kernel
theorem d_Kind_builds_46 : decode b_Kind_builds 46 = .ok (.iconst 2, 1) := by decide +kernel
theorem d_Kind_builds_47 : decode b_Kind_builds 47 = .ok (.idiv, 1) := by decide +kernel
theorem d_Kind_builds_48 : decode b_Kind_builds 48 = .ok (.iconst 2, 1) := by decide +kernel
theorem d_Kind_builds_49 : decode b_Kind_builds 49 = .ok (.idiv, 1) := by decide +kernel
theorem d_Kind_builds_50 : decode b_Kind_builds 50 = .ok (.goto 6, 3) := by decide +kernel
theorem d_Kind_builds_53 : decode b_Kind_builds 53 = .ok (.iload_n 1, 1) := by decide +kernel
theorem d_Kind_builds_54 : decode b_Kind_builds 54 = .ok (.iconst 2, 1) := by decide +kernel
theorem d_Kind_builds_55 : decode b_Kind_builds 55 = .ok (.idiv, 1) := by decide +kernel
theorem d_Kind_builds_56 : decode b_Kind_builds 56 = .ok (.ireturn, 1) := by decide +kernel
theorem d_Kind_builds_57 : decode b_Kind_builds 57 = .ok (.iconst 0, 1) := by decide +kernel
theorem d_Kind_builds_58 : decode b_Kind_builds 58 = .ok (.iload_n 1, 1) := by decide +kernel
theorem d_Kind_builds_59 : decode b_Kind_builds 59 = .ok (.iconst 5, 1) := by decide +kernel
theorem d_Kind_builds_60 : decode b_Kind_builds 60 = .ok (.iload_n 3, 1) := by decide +kernel
theorem d_Kind_builds_61 : decode b_Kind_builds 61 = .ok (.imul, 1) := by decide +kernel
theorem d_Kind_builds_62 : decode b_Kind_builds 62 = .ok (.isub, 1) := by decide +kernel
theorem d_Kind_builds_63 : decode b_Kind_builds 63 = .ok (.invokestatic 15, 3) := by decide +kernel
theorem d_Kind_builds_66 : decode b_Kind_builds 66 = .ok (.ireturn, 1) := by decide +kernel
theorem d_Kind_builds_67 : decode b_Kind_builds 67 = .ok (.iload_n 1, 1) := by decide +kernel
theorem d_Kind_builds_68 : decode b_Kind_builds 68 = .ok (.iload_n 2, 1) := by decide +kernel
theorem d_Kind_builds_69 : decode b_Kind_builds 69 = .ok (.iload_n 3, 1) := by decide +kernel
theorem d_Kind_builds_70 : decode b_Kind_builds 70 = .ok (.imul, 1) := by decide +kernel
theorem d_Kind_builds_71 : decode b_Kind_builds 71 = .ok (.iadd, 1) := by decide +kernel
theorem d_Kind_builds_72 : decode b_Kind_builds 72 = .ok (.ireturn, 1) := by decide +kernel
theorem d_Kind_builds_73 : decode b_Kind_builds 73 = .ok (.iload_n 1, 1) := by decide +kernel
theorem d_Kind_builds_74 : decode b_Kind_builds 74 = .ok (.ireturn, 1) := by decide +kernel
abbrev b_Kind_fades : ByteArray := prog_3_method_5_code
def y_Kind_fades : MethodName := ⟨"RoundAndRound$Kind", "fades", "(II)I"⟩
theorem d_Kind_fades_0 : decode b_Kind_fades 0 = .ok (.iload_n 1, 1) := by decide +kernel
theorem d_Kind_fades_1 : decode b_Kind_fades 1 = .ok (.iconst 5, 1) := by decide +kernel
theorem d_Kind_fades_2 : decode b_Kind_fades 2 = .ok (.iadd, 1) := by decide +kernel
theorem d_Kind_fades_3 : decode b_Kind_fades 3 = .ok (.istore_n 2, 1) := by decide +kernel
theorem d_Kind_fades_4 : decode b_Kind_fades 4 = .ok (.iload_n 0, 1) := by decide +kernel
theorem d_Kind_fades_5 : decode b_Kind_fades 5 = .ok (.iconst 2, 1) := by decide +kernel
theorem d_Kind_fades_6 : decode b_Kind_fades 6 = .ok (.if_icmp .ne 7, 3) := by decide +kernel
theorem d_Kind_fades_9 : decode b_Kind_fades 9 = .ok (.iload_n 2, 1) := by decide +kernel
theorem d_Kind_fades_10 : decode b_Kind_fades 10 = .ok (.goto 15, 3) := by decide +kernel
theorem d_Kind_fades_13 : decode b_Kind_fades 13 = .ok (.iload_n 0, 1) := by decide +kernel
theorem d_Kind_fades_14 : decode b_Kind_fades 14 = .ok (.iconst 4, 1) := by decide +kernel
theorem d_Kind_fades_15 : decode b_Kind_fades 15 = .ok (.if_icmp .ne 9, 3) := by decide +kernel
theorem d_Kind_fades_18 : decode b_Kind_fades 18 = .ok (.iload_n 2, 1) := by decide +kernel
theorem d_Kind_fades_19 : decode b_Kind_fades 19 = .ok (.iconst 3, 1) := by decide +kernel
theorem d_Kind_fades_20 : decode b_Kind_fades 20 = .ok (.idiv, 1) := by decide +kernel
theorem d_Kind_fades_21 : decode b_Kind_fades 21 = .ok (.goto 4, 3) := by decide +kernel
theorem d_Kind_fades_24 : decode b_Kind_fades 24 = .ok (.iload_n 1, 1) := by decide +kernel
theorem d_Kind_fades_25 : decode b_Kind_fades 25 = .ok (.istore_n 3, 1) := by decide +kernel
theorem d_Kind_fades_26 : decode b_Kind_fades 26 = .ok (.iload_n 3, 1) := by decide +kernel
theorem d_Kind_fades_27 : decode b_Kind_fades 27 = .ok (.iconst 0, 1) := by decide +kernel
theorem d_Kind_fades_28 : decode b_Kind_fades 28 = .ok (.bipush (100), 2) := by decide +kernel
theorem d_Kind_fades_30 : decode b_Kind_fades 30 = .ok (.invokestatic 21, 3) := by decide +kernel
theorem d_Kind_fades_33 : decode b_Kind_fades 33 = .ok (.ireturn, 1) := by decide +kernel
abbrev b_Kind_fallsFrom : ByteArray := prog_3_method_6_code
def y_Kind_fallsFrom : MethodName := ⟨"RoundAndRound$Kind", "fallsFrom", "(II)I"⟩
theorem d_Kind_fallsFrom_0 : decode b_Kind_fallsFrom 0 = .ok (.iload_n 0, 1) := by decide +kernel
theorem d_Kind_fallsFrom_1 : decode b_Kind_fallsFrom 1 = .ok (.tableswitch 44 (1) (4) #[31, 44, 31, 40], 31) := by decide +kernel
theorem d_Kind_fallsFrom_32 : decode b_Kind_fallsFrom 32 = .ok (.sipush (800), 3) := by decide +kernel
theorem d_Kind_fallsFrom_35 : decode b_Kind_fallsFrom 35 = .ok (.bipush (20), 2) := by decide +kernel
theorem d_Kind_fallsFrom_37 : decode b_Kind_fallsFrom 37 = .ok (.iload_n 1, 1) := by decide +kernel
theorem d_Kind_fallsFrom_38 : decode b_Kind_fallsFrom 38 = .ok (.imul, 1) := by decide +kernel
theorem d_Kind_fallsFrom_39 : decode b_Kind_fallsFrom 39 = .ok (.iadd, 1) := by decide +kernel
theorem d_Kind_fallsFrom_40 : decode b_Kind_fallsFrom 40 = .ok (.ireturn, 1) := by decide +kernel
theorem d_Kind_fallsFrom_41 : decode b_Kind_fallsFrom 41 = .ok (.sipush (400), 3) := by decide +kernel
theorem d_Kind_fallsFrom_44 : decode b_Kind_fallsFrom 44 = .ok (.ireturn, 1) := by decide +kernel
theorem d_Kind_fallsFrom_45 : decode b_Kind_fallsFrom 45 = .ok (.sipush (800), 3) := by decide +kernel
theorem d_Kind_fallsFrom_48 : decode b_Kind_fallsFrom 48 = .ok (.ireturn, 1) := by decide +kernel
