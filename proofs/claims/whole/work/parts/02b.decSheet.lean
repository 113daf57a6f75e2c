abbrev b_Sheet_init : ByteArray := prog_5_method_1_code
def y_Sheet_init : MethodName := ⟨"RoundAndRound$Sheet", "<init>", "()V"⟩
theorem d_Sheet_init_0 : decode b_Sheet_init 0 = .ok (.aload_n 0, 1) := by decide +kernel
theorem d_Sheet_init_1 : decode b_Sheet_init 1 = .ok (.invokespecial 3, 3) := by decide +kernel
theorem d_Sheet_init_4 : decode b_Sheet_init 4 = .ok (.aload_n 0, 1) := by decide +kernel
theorem d_Sheet_init_5 : decode b_Sheet_init 5 = .ok (.bipush (40), 2) := by decide +kernel
theorem d_Sheet_init_7 : decode b_Sheet_init 7 = .ok (.newarray .int, 2) := by decide +kernel
theorem d_Sheet_init_9 : decode b_Sheet_init 9 = .ok (.putfield 9, 3) := by decide +kernel
theorem d_Sheet_init_12 : decode b_Sheet_init 12 = .ok (.aload_n 0, 1) := by decide +kernel
theorem d_Sheet_init_13 : decode b_Sheet_init 13 = .ok (.iconst (-1), 1) := by decide +kernel
theorem d_Sheet_init_14 : decode b_Sheet_init 14 = .ok (.putfield 15, 3) := by decide +kernel
theorem d_Sheet_init_17 : decode b_Sheet_init 17 = .ok (.aload_n 0, 1) := by decide +kernel
theorem d_Sheet_init_18 : decode b_Sheet_init 18 = .ok (.iconst 0, 1) := by decide +kernel
theorem d_Sheet_init_19 : decode b_Sheet_init 19 = .ok (.putfield 19, 3) := by decide +kernel
theorem d_Sheet_init_22 : decode b_Sheet_init 22 = .ok (.return_, 1) := by decide +kernel
abbrev b_Sheet_begin : ByteArray := prog_5_method_2_code
def y_Sheet_begin : MethodName := ⟨"RoundAndRound$Sheet", "begin", "(II)V"⟩
theorem d_Sheet_begin_0 : decode b_Sheet_begin 0 = .ok (.aload_n 0, 1) := by decide +kernel
theorem d_Sheet_begin_1 : decode b_Sheet_begin 1 = .ok (.iload_n 1, 1) := by decide +kernel
theorem d_Sheet_begin_2 : decode b_Sheet_begin 2 = .ok (.putfield 15, 3) := by decide +kernel
theorem d_Sheet_begin_5 : decode b_Sheet_begin 5 = .ok (.aload_n 0, 1) := by decide +kernel
theorem d_Sheet_begin_6 : decode b_Sheet_begin 6 = .ok (.iload_n 2, 1) := by decide +kernel
theorem d_Sheet_begin_7 : decode b_Sheet_begin 7 = .ok (.iconst 0, 1) := by decide +kernel
theorem d_Sheet_begin_8 : decode b_Sheet_begin 8 = .ok (.aload_n 0, 1) := by decide +kernel
theorem d_Sheet_begin_9 : decode b_Sheet_begin 9 = .ok (.getfield 9, 3) := by decide +kernel
theorem d_Sheet_begin_12 : decode b_Sheet_begin 12 = .ok (.arraylength, 1) := by decide +kernel
theorem d_Sheet_begin_13 : decode b_Sheet_begin 13 = .ok (.invokestatic 22, 3) := by decide +kernel
theorem d_Sheet_begin_16 : decode b_Sheet_begin 16 = .ok (.putfield 19, 3) := by decide +kernel
theorem d_Sheet_begin_19 : decode b_Sheet_begin 19 = .ok (.iconst 0, 1) := by decide +kernel
theorem d_Sheet_begin_20 : decode b_Sheet_begin 20 = .ok (.istore_n 3, 1) := by decide +kernel
theorem d_Sheet_begin_21 : decode b_Sheet_begin 21 = .ok (.iload_n 3, 1) := by decide +kernel
theorem d_Sheet_begin_22 : decode b_Sheet_begin 22 = .ok (.aload_n 0, 1) := by decide +kernel
theorem d_Sheet_begin_23 : decode b_Sheet_begin 23 = .ok (.getfield 9, 3) := by decide +kernel
theorem d_Sheet_begin_26 : decode b_Sheet_begin 26 = .ok (.arraylength, 1) := by decide +kernel
theorem d_Sheet_begin_27 : decode b_Sheet_begin 27 = .ok (.if_icmp .ge 16, 3) := by decide +kernel
theorem d_Sheet_begin_30 : decode b_Sheet_begin 30 = .ok (.aload_n 0, 1) := by decide +kernel
theorem d_Sheet_begin_31 : decode b_Sheet_begin 31 = .ok (.getfield 9, 3) := by decide +kernel
theorem d_Sheet_begin_34 : decode b_Sheet_begin 34 = .ok (.iload_n 3, 1) := by decide +kernel
theorem d_Sheet_begin_35 : decode b_Sheet_begin 35 = .ok (.iconst 0, 1) := by decide +kernel
theorem d_Sheet_begin_36 : decode b_Sheet_begin 36 = .ok (.iastore, 1) := by decide +kernel
theorem d_Sheet_begin_37 : decode b_Sheet_begin 37 = .ok (.iinc 3 (1), 3) := by decide +kernel
theorem d_Sheet_begin_40 : decode b_Sheet_begin 40 = .ok (.goto (-19), 3) := by decide +kernel
theorem d_Sheet_begin_43 : decode b_Sheet_begin 43 = .ok (.return_, 1) := by decide +kernel
abbrev b_Sheet_isMissing : ByteArray := prog_5_method_3_code
def y_Sheet_isMissing : MethodName := ⟨"RoundAndRound$Sheet", "isMissing", "()Z"⟩
theorem d_Sheet_isMissing_0 : decode b_Sheet_isMissing 0 = .ok (.aload_n 0, 1) := by decide +kernel
theorem d_Sheet_isMissing_1 : decode b_Sheet_isMissing 1 = .ok (.getfield 15, 3) := by decide +kernel
theorem d_Sheet_isMissing_4 : decode b_Sheet_isMissing 4 = .ok (.iconst (-1), 1) := by decide +kernel
theorem d_Sheet_isMissing_5 : decode b_Sheet_isMissing 5 = .ok (.if_icmp .ne 7, 3) := by decide +kernel
theorem d_Sheet_isMissing_8 : decode b_Sheet_isMissing 8 = .ok (.iconst 1, 1) := by decide +kernel
theorem d_Sheet_isMissing_9 : decode b_Sheet_isMissing 9 = .ok (.goto 4, 3) := by decide +kernel
theorem d_Sheet_isMissing_12 : decode b_Sheet_isMissing 12 = .ok (.iconst 0, 1) := by decide +kernel
theorem d_Sheet_isMissing_13 : decode b_Sheet_isMissing 13 = .ok (.ireturn, 1) := by decide +kernel
abbrev b_Sheet_has : ByteArray := prog_5_method_4_code
def y_Sheet_has : MethodName := ⟨"RoundAndRound$Sheet", "has", "(I)Z"⟩
theorem d_Sheet_has_0 : decode b_Sheet_has 0 = .ok (.iload_n 1, 1) := by decide +kernel
theorem d_Sheet_has_1 : decode b_Sheet_has 1 = .ok (.ifCond .lt 24, 3) := by decide +kernel
theorem d_Sheet_has_4 : decode b_Sheet_has 4 = .ok (.iload_n 1, 1) := by decide +kernel
theorem d_Sheet_has_5 : decode b_Sheet_has 5 = .ok (.aload_n 0, 1) := by decide +kernel
theorem d_Sheet_has_6 : decode b_Sheet_has 6 = .ok (.getfield 19, 3) := by decide +kernel
theorem d_Sheet_has_9 : decode b_Sheet_has 9 = .ok (.if_icmp .ge 16, 3) := by decide +kernel
theorem d_Sheet_has_12 : decode b_Sheet_has 12 = .ok (.iload_n 1, 1) := by decide +kernel
theorem d_Sheet_has_13 : decode b_Sheet_has 13 = .ok (.aload_n 0, 1) := by decide +kernel
theorem d_Sheet_has_14 : decode b_Sheet_has 14 = .ok (.getfield 9, 3) := by decide +kernel
theorem d_Sheet_has_17 : decode b_Sheet_has 17 = .ok (.arraylength, 1) := by decide +kernel
theorem d_Sheet_has_18 : decode b_Sheet_has 18 = .ok (.if_icmp .ge 7, 3) := by decide +kernel
theorem d_Sheet_has_21 : decode b_Sheet_has 21 = .ok (.iconst 1, 1) := by decide +kernel
theorem d_Sheet_has_22 : decode b_Sheet_has 22 = .ok (.goto 4, 3) := by decide +kernel
theorem d_Sheet_has_25 : decode b_Sheet_has 25 = .ok (.iconst 0, 1) := by decide +kernel
theorem d_Sheet_has_26 : decode b_Sheet_has 26 = .ok (.ireturn, 1) := by decide +kernel
abbrev b_Sheet_hasRow : ByteArray := prog_5_method_5_code
def y_Sheet_hasRow : MethodName := ⟨"RoundAndRound$Sheet", "hasRow", "(II)Z"⟩
theorem d_Sheet_hasRow_0 : decode b_Sheet_hasRow 0 = .ok (.iload_n 2, 1) := by decide +kernel
theorem d_Sheet_hasRow_1 : decode b_Sheet_hasRow 1 = .ok (.ifCond .lt 29, 3) := by decide +kernel
theorem d_Sheet_hasRow_4 : decode b_Sheet_hasRow 4 = .ok (.iload_n 2, 1) := by decide +kernel
theorem d_Sheet_hasRow_5 : decode b_Sheet_hasRow 5 = .ok (.aload_n 0, 1) := by decide +kernel
theorem d_Sheet_hasRow_6 : decode b_Sheet_hasRow 6 = .ok (.getfield 19, 3) := by decide +kernel
theorem d_Sheet_hasRow_9 : decode b_Sheet_hasRow 9 = .ok (.if_icmp .gt 21, 3) := by decide +kernel
theorem d_Sheet_hasRow_12 : decode b_Sheet_hasRow 12 = .ok (.iload_n 1, 1) := by decide +kernel
theorem d_Sheet_hasRow_13 : decode b_Sheet_hasRow 13 = .ok (.ifCond .lt 17, 3) := by decide +kernel
theorem d_Sheet_hasRow_16 : decode b_Sheet_hasRow 16 = .ok (.iload_n 1, 1) := by decide +kernel
theorem d_Sheet_hasRow_17 : decode b_Sheet_hasRow 17 = .ok (.aload_n 0, 1) := by decide +kernel
theorem d_Sheet_hasRow_18 : decode b_Sheet_hasRow 18 = .ok (.getfield 19, 3) := by decide +kernel
theorem d_Sheet_hasRow_21 : decode b_Sheet_hasRow 21 = .ok (.iload_n 2, 1) := by decide +kernel
theorem d_Sheet_hasRow_22 : decode b_Sheet_hasRow 22 = .ok (.isub, 1) := by decide +kernel
theorem d_Sheet_hasRow_23 : decode b_Sheet_hasRow 23 = .ok (.if_icmp .gt 7, 3) := by decide +kernel
theorem d_Sheet_hasRow_26 : decode b_Sheet_hasRow 26 = .ok (.iconst 1, 1) := by decide +kernel
theorem d_Sheet_hasRow_27 : decode b_Sheet_hasRow 27 = .ok (.goto 4, 3) := by decide +kernel
theorem d_Sheet_hasRow_30 : decode b_Sheet_hasRow 30 = .ok (.iconst 0, 1) := by decide +kernel
theorem d_Sheet_hasRow_31 : decode b_Sheet_hasRow 31 = .ok (.ireturn, 1) := by decide +kernel
abbrev b_Sheet_get : ByteArray := prog_5_method_6_code
def y_Sheet_get : MethodName := ⟨"RoundAndRound$Sheet", "get", "(I)I"⟩
theorem d_Sheet_get_0 : decode b_Sheet_get 0 = .ok (.aload_n 0, 1) := by decide +kernel
theorem d_Sheet_get_1 : decode b_Sheet_get 1 = .ok (.iload_n 1, 1) := by decide +kernel
theorem d_Sheet_get_2 : decode b_Sheet_get 2 = .ok (.invokevirtual 26, 3) := by decide +kernel
theorem d_Sheet_get_5 : decode b_Sheet_get 5 = .ok (.ifCond .eq 12, 3) := by decide +kernel
theorem d_Sheet_get_8 : decode b_Sheet_get 8 = .ok (.aload_n 0, 1) := by decide +kernel
theorem d_Sheet_get_9 : decode b_Sheet_get 9 = .ok (.getfield 9, 3) := by decide +kernel
theorem d_Sheet_get_12 : decode b_Sheet_get 12 = .ok (.iload_n 1, 1) := by decide +kernel
theorem d_Sheet_get_13 : decode b_Sheet_get 13 = .ok (.iaload, 1) := by decide +kernel
theorem d_Sheet_get_14 : decode b_Sheet_get 14 = .ok (.goto 4, 3) := by decide +kernel
theorem d_Sheet_get_17 : decode b_Sheet_get 17 = .ok (.iconst 0, 1) := by decide +kernel
theorem d_Sheet_get_18 : decode b_Sheet_get 18 = .ok (.ireturn, 1) := by decide +kernel
abbrev b_Sheet_put : ByteArray := prog_5_method_7_code
def y_Sheet_put : MethodName := ⟨"RoundAndRound$Sheet", "put", "(II)V"⟩
theorem d_Sheet_put_0 : decode b_Sheet_put 0 = .ok (.aload_n 0, 1) := by decide +kernel
theorem d_Sheet_put_1 : decode b_Sheet_put 1 = .ok (.iload_n 1, 1) := by decide +kernel
theorem d_Sheet_put_2 : decode b_Sheet_put 2 = .ok (.invokevirtual 26, 3) := by decide +kernel
theorem d_Sheet_put_5 : decode b_Sheet_put 5 = .ok (.ifCond .eq 35, 3) := by decide +kernel
theorem d_Sheet_put_8 : decode b_Sheet_put 8 = .ok (.aload_n 0, 1) := by decide +kernel
theorem d_Sheet_put_9 : decode b_Sheet_put 9 = .ok (.getfield 9, 3) := by decide +kernel
theorem d_Sheet_put_12 : decode b_Sheet_put 12 = .ok (.iload_n 1, 1) := by decide +kernel
theorem d_Sheet_put_13 : decode b_Sheet_put 13 = .ok (.aload_n 0, 1) := by decide +kernel
theorem d_Sheet_put_14 : decode b_Sheet_put 14 = .ok (.getfield 15, 3) := by decide +kernel
theorem d_Sheet_put_17 : decode b_Sheet_put 17 = .ok (.ifCond .ne 8, 3) := by decide +kernel
theorem d_Sheet_put_20 : decode b_Sheet_put 20 = .ok (.iload_n 2, 1) := by decide +kernel
theorem d_Sheet_put_21 : decode b_Sheet_put 21 = .ok (.i2b, 1) := by decide +kernel
theorem d_Sheet_put_22 : decode b_Sheet_put 22 = .ok (.goto 17, 3) := by decide +kernel
theorem d_Sheet_put_25 : decode b_Sheet_put 25 = .ok (.aload_n 0, 1) := by decide +kernel
theorem d_Sheet_put_26 : decode b_Sheet_put 26 = .ok (.getfield 15, 3) := by decide +kernel
theorem d_Sheet_put_29 : decode b_Sheet_put 29 = .ok (.iconst 1, 1) := by decide +kernel
theorem d_Sheet_put_30 : decode b_Sheet_put 30 = .ok (.if_icmp .ne 8, 3) := by decide +kernel
theorem d_Sheet_put_33 : decode b_Sheet_put 33 = .ok (.iload_n 2, 1) := by decide +kernel
theorem d_Sheet_put_34 : decode b_Sheet_put 34 = .ok (.i2s, 1) := by decide +kernel
theorem d_Sheet_put_35 : decode b_Sheet_put 35 = .ok (.goto 4, 3) := by decide +kernel
theorem d_Sheet_put_38 : decode b_Sheet_put 38 = .ok (.iload_n 2, 1) := by decide +kernel
theorem d_Sheet_put_39 : decode b_Sheet_put 39 = .ok (.iastore, 1) := by decide +kernel
theorem d_Sheet_put_40 : decode b_Sheet_put 40 = .ok (.return_, 1) := by decide +kernel
