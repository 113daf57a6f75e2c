abbrev b_Head_init : ByteArray := prog_2_method_1_code
def y_Head_init : MethodName := ⟨"RoundAndRound$Head", "<init>", "()V"⟩
theorem d_Head_init_0 : decode b_Head_init 0 = .ok (.aload_n 0, 1) := by decide +kernel
theorem d_Head_init_1 : decode b_Head_init 1 = .ok (.invokespecial 3, 3) := by decide +kernel
theorem d_Head_init_4 : decode b_Head_init 4 = .ok (.return_, 1) := by decide +kernel
abbrev b_Head_begin : ByteArray := prog_2_method_2_code
def y_Head_begin : MethodName := ⟨"RoundAndRound$Head", "begin", "(II)V"⟩
theorem d_Head_begin_0 : decode b_Head_begin 0 = .ok (.aload_n 0, 1) := by decide +kernel
theorem d_Head_begin_1 : decode b_Head_begin 1 = .ok (.iload_n 1, 1) := by decide +kernel
theorem d_Head_begin_2 : decode b_Head_begin 2 = .ok (.putfield 9, 3) := by decide +kernel
theorem d_Head_begin_5 : decode b_Head_begin 5 = .ok (.aload_n 0, 1) := by decide +kernel
theorem d_Head_begin_6 : decode b_Head_begin 6 = .ok (.iload_n 2, 1) := by decide +kernel
theorem d_Head_begin_7 : decode b_Head_begin 7 = .ok (.putfield 15, 3) := by decide +kernel
theorem d_Head_begin_10 : decode b_Head_begin 10 = .ok (.aload_n 0, 1) := by decide +kernel
theorem d_Head_begin_11 : decode b_Head_begin 11 = .ok (.iconst 0, 1) := by decide +kernel
theorem d_Head_begin_12 : decode b_Head_begin 12 = .ok (.putfield 18, 3) := by decide +kernel
theorem d_Head_begin_15 : decode b_Head_begin 15 = .ok (.aload_n 0, 1) := by decide +kernel
theorem d_Head_begin_16 : decode b_Head_begin 16 = .ok (.iconst 0, 1) := by decide +kernel
theorem d_Head_begin_17 : decode b_Head_begin 17 = .ok (.putfield 21, 3) := by decide +kernel
theorem d_Head_begin_20 : decode b_Head_begin 20 = .ok (.aload_n 0, 1) := by decide +kernel
theorem d_Head_begin_21 : decode b_Head_begin 21 = .ok (.iconst 0, 1) := by decide +kernel
theorem d_Head_begin_22 : decode b_Head_begin 22 = .ok (.putfield 24, 3) := by decide +kernel
theorem d_Head_begin_25 : decode b_Head_begin 25 = .ok (.aload_n 0, 1) := by decide +kernel
theorem d_Head_begin_26 : decode b_Head_begin 26 = .ok (.invokevirtual 27, 3) := by decide +kernel
theorem d_Head_begin_29 : decode b_Head_begin 29 = .ok (.return_, 1) := by decide +kernel
abbrev b_Head_become : ByteArray := prog_2_method_3_code
def y_Head_become : MethodName := ⟨"RoundAndRound$Head", "become", "(LRoundAndRound$Head;)V"⟩
theorem d_Head_become_0 : decode b_Head_become 0 = .ok (.aload_n 0, 1) := by decide +kernel
theorem d_Head_become_1 : decode b_Head_become 1 = .ok (.aload_n 1, 1) := by decide +kernel
theorem d_Head_become_2 : decode b_Head_become 2 = .ok (.getfield 9, 3) := by decide +kernel
theorem d_Head_become_5 : decode b_Head_become 5 = .ok (.putfield 9, 3) := by decide +kernel
theorem d_Head_become_8 : decode b_Head_become 8 = .ok (.aload_n 0, 1) := by decide +kernel
theorem d_Head_become_9 : decode b_Head_become 9 = .ok (.aload_n 1, 1) := by decide +kernel
theorem d_Head_become_10 : decode b_Head_become 10 = .ok (.getfield 15, 3) := by decide +kernel
theorem d_Head_become_13 : decode b_Head_become 13 = .ok (.putfield 15, 3) := by decide +kernel
theorem d_Head_become_16 : decode b_Head_become 16 = .ok (.aload_n 0, 1) := by decide +kernel
theorem d_Head_become_17 : decode b_Head_become 17 = .ok (.aload_n 1, 1) := by decide +kernel
theorem d_Head_become_18 : decode b_Head_become 18 = .ok (.getfield 18, 3) := by decide +kernel
theorem d_Head_become_21 : decode b_Head_become 21 = .ok (.putfield 18, 3) := by decide +kernel
theorem d_Head_become_24 : decode b_Head_become 24 = .ok (.aload_n 0, 1) := by decide +kernel
theorem d_Head_become_25 : decode b_Head_become 25 = .ok (.aload_n 1, 1) := by decide +kernel
theorem d_Head_become_26 : decode b_Head_become 26 = .ok (.getfield 21, 3) := by decide +kernel
theorem d_Head_become_29 : decode b_Head_become 29 = .ok (.putfield 21, 3) := by decide +kernel
theorem d_Head_become_32 : decode b_Head_become 32 = .ok (.aload_n 0, 1) := by decide +kernel
theorem d_Head_become_33 : decode b_Head_become 33 = .ok (.aload_n 1, 1) := by decide +kernel
theorem d_Head_become_34 : decode b_Head_become 34 = .ok (.getfield 24, 3) := by decide +kernel
theorem d_Head_become_37 : decode b_Head_become 37 = .ok (.putfield 24, 3) := by decide +kernel
theorem d_Head_become_40 : decode b_Head_become 40 = .ok (.aload_n 0, 1) := by decide +kernel
theorem d_Head_become_41 : decode b_Head_become 41 = .ok (.aload_n 1, 1) := by decide +kernel
theorem d_Head_become_42 : decode b_Head_become 42 = .ok (.getfield 30, 3) := by decide +kernel
theorem d_Head_become_45 : decode b_Head_become 45 = .ok (.putfield 30, 3) := by decide +kernel
theorem d_Head_become_48 : decode b_Head_become 48 = .ok (.aload_n 0, 1) := by decide +kernel
theorem d_Head_become_49 : decode b_Head_become 49 = .ok (.aload_n 1, 1) := by decide +kernel
theorem d_Head_become_50 : decode b_Head_become 50 = .ok (.getfield 33, 3) := by decide +kernel
theorem d_Head_become_53 : decode b_Head_become 53 = .ok (.putfield 33, 3) := by decide +kernel
theorem d_Head_become_56 : decode b_Head_become 56 = .ok (.aload_n 0, 1) := by decide +kernel
theorem d_Head_become_57 : decode b_Head_become 57 = .ok (.aload_n 1, 1) := by decide +kernel
theorem d_Head_become_58 : decode b_Head_become 58 = .ok (.getfield 36, 3) := by decide +kernel
theorem d_Head_become_61 : decode b_Head_become 61 = .ok (.putfield 36, 3) := by decide +kernel
theorem d_Head_become_64 : decode b_Head_become 64 = .ok (.return_, 1) := by decide +kernel
abbrev b_Head_standAtStart : ByteArray := prog_2_method_4_code
def y_Head_standAtStart : MethodName := ⟨"RoundAndRound$Head", "standAtStart", "()V"⟩
theorem d_Head_standAtStart_0 : decode b_Head_standAtStart 0 = .ok (.aload_n 0, 1) := by decide +kernel
theorem d_Head_standAtStart_1 : decode b_Head_standAtStart 1 = .ok (.iconst 0, 1) := by decide +kernel
theorem d_Head_standAtStart_2 : decode b_Head_standAtStart 2 = .ok (.putfield 30, 3) := by decide +kernel
theorem d_Head_standAtStart_5 : decode b_Head_standAtStart 5 = .ok (.aload_n 0, 1) := by decide +kernel
theorem d_Head_standAtStart_6 : decode b_Head_standAtStart 6 = .ok (.iconst 0, 1) := by decide +kernel
theorem d_Head_standAtStart_7 : decode b_Head_standAtStart 7 = .ok (.putfield 33, 3) := by decide +kernel
theorem d_Head_standAtStart_10 : decode b_Head_standAtStart 10 = .ok (.aload_n 0, 1) := by decide +kernel
theorem d_Head_standAtStart_11 : decode b_Head_standAtStart 11 = .ok (.iconst 0, 1) := by decide +kernel
theorem d_Head_standAtStart_12 : decode b_Head_standAtStart 12 = .ok (.putfield 36, 3) := by decide +kernel
theorem d_Head_standAtStart_15 : decode b_Head_standAtStart 15 = .ok (.return_, 1) := by decide +kernel
abbrev b_Head_fallsFrom : ByteArray := prog_2_method_5_code
def y_Head_fallsFrom : MethodName := ⟨"RoundAndRound$Head", "fallsFrom", "()I"⟩
theorem d_Head_fallsFrom_0 : decode b_Head_fallsFrom 0 = .ok (.aload_n 0, 1) := by decide +kernel
theorem d_Head_fallsFrom_1 : decode b_Head_fallsFrom 1 = .ok (.getfield 9, 3) := by decide +kernel
theorem d_Head_fallsFrom_4 : decode b_Head_fallsFrom 4 = .ok (.aload_n 0, 1) := by decide +kernel
theorem d_Head_fallsFrom_5 : decode b_Head_fallsFrom 5 = .ok (.getfield 15, 3) := by decide +kernel
theorem d_Head_fallsFrom_8 : decode b_Head_fallsFrom 8 = .ok (.invokestatic 40, 3) := by decide +kernel
theorem d_Head_fallsFrom_11 : decode b_Head_fallsFrom 11 = .ok (.ireturn, 1) := by decide +kernel
abbrev b_Head_mustFall : ByteArray := prog_2_method_6_code
def y_Head_mustFall : MethodName := ⟨"RoundAndRound$Head", "mustFall", "()Z"⟩
theorem d_Head_mustFall_0 : decode b_Head_mustFall 0 = .ok (.aload_n 0, 1) := by decide +kernel
theorem d_Head_mustFall_1 : decode b_Head_mustFall 1 = .ok (.getfield 18, 3) := by decide +kernel
theorem d_Head_mustFall_4 : decode b_Head_mustFall 4 = .ok (.invokestatic 46, 3) := by decide +kernel
theorem d_Head_mustFall_7 : decode b_Head_mustFall 7 = .ok (.aload_n 0, 1) := by decide +kernel
theorem d_Head_mustFall_8 : decode b_Head_mustFall 8 = .ok (.invokevirtual 52, 3) := by decide +kernel
theorem d_Head_mustFall_11 : decode b_Head_mustFall 11 = .ok (.if_icmp .lt 7, 3) := by decide +kernel
theorem d_Head_mustFall_14 : decode b_Head_mustFall 14 = .ok (.iconst 1, 1) := by decide +kernel
theorem d_Head_mustFall_15 : decode b_Head_mustFall 15 = .ok (.goto 4, 3) := by decide +kernel
theorem d_Head_mustFall_18 : decode b_Head_mustFall 18 = .ok (.iconst 0, 1) := by decide +kernel
theorem d_Head_mustFall_19 : decode b_Head_mustFall 19 = .ok (.ireturn, 1) := by decide +kernel
abbrev b_Head_fade : ByteArray := prog_2_method_7_code
def y_Head_fade : MethodName := ⟨"RoundAndRound$Head", "fade", "(LRoundAndRound$Text;I)V"⟩
theorem d_Head_fade_0 : decode b_Head_fade 0 = .ok (.aload_n 0, 1) := by decide +kernel
theorem d_Head_fade_1 : decode b_Head_fade 1 = .ok (.getfield 9, 3) := by decide +kernel
theorem d_Head_fade_4 : decode b_Head_fade 4 = .ok (.aload_n 1, 1) := by decide +kernel
theorem d_Head_fade_5 : decode b_Head_fade 5 = .ok (.iconst 1, 1) := by decide +kernel
theorem d_Head_fade_6 : decode b_Head_fade 6 = .ok (.aload_n 0, 1) := by decide +kernel
theorem d_Head_fade_7 : decode b_Head_fade 7 = .ok (.iconst 0, 1) := by decide +kernel
theorem d_Head_fade_8 : decode b_Head_fade 8 = .ok (.iload_n 2, 1) := by decide +kernel
theorem d_Head_fade_9 : decode b_Head_fade 9 = .ok (.invokevirtual 55, 3) := by decide +kernel
theorem d_Head_fade_12 : decode b_Head_fade 12 = .ok (.invokestatic 61, 3) := by decide +kernel
theorem d_Head_fade_15 : decode b_Head_fade 15 = .ok (.istore_n 3, 1) := by decide +kernel
theorem d_Head_fade_16 : decode b_Head_fade 16 = .ok (.aload_n 0, 1) := by decide +kernel
theorem d_Head_fade_17 : decode b_Head_fade 17 = .ok (.dup, 1) := by decide +kernel
theorem d_Head_fade_18 : decode b_Head_fade 18 = .ok (.getfield 18, 3) := by decide +kernel
theorem d_Head_fade_21 : decode b_Head_fade 21 = .ok (.aload_n 0, 1) := by decide +kernel
theorem d_Head_fade_22 : decode b_Head_fade 22 = .ok (.getfield 18, 3) := by decide +kernel
theorem d_Head_fade_25 : decode b_Head_fade 25 = .ok (.iload_n 3, 1) := by decide +kernel
theorem d_Head_fade_26 : decode b_Head_fade 26 = .ok (.imul, 1) := by decide +kernel
theorem d_Head_fade_27 : decode b_Head_fade 27 = .ok (.bipush (100), 2) := by decide +kernel
theorem d_Head_fade_29 : decode b_Head_fade 29 = .ok (.idiv, 1) := by decide +kernel
theorem d_Head_fade_30 : decode b_Head_fade 30 = .ok (.isub, 1) := by decide +kernel
theorem d_Head_fade_31 : decode b_Head_fade 31 = .ok (.putfield 18, 3) := by decide +kernel
theorem d_Head_fade_34 : decode b_Head_fade 34 = .ok (.return_, 1) := by decide +kernel
abbrev b_Head_spinOnce : ByteArray := prog_2_method_8_code
def y_Head_spinOnce : MethodName := ⟨"RoundAndRound$Head", "spinOnce", "(LRoundAndRound$Text;II)V"⟩
theorem d_Head_spinOnce_0 : decode b_Head_spinOnce 0 = .ok (.aload_n 0, 1) := by decide +kernel
theorem d_Head_spinOnce_1 : decode b_Head_spinOnce 1 = .ok (.getfield 9, 3) := by decide +kernel
theorem d_Head_spinOnce_4 : decode b_Head_spinOnce 4 = .ok (.aload_n 1, 1) := by decide +kernel
theorem d_Head_spinOnce_5 : decode b_Head_spinOnce 5 = .ok (.iconst 0, 1) := by decide +kernel
theorem d_Head_spinOnce_6 : decode b_Head_spinOnce 6 = .ok (.aload_n 0, 1) := by decide +kernel
theorem d_Head_spinOnce_7 : decode b_Head_spinOnce 7 = .ok (.iload_n 2, 1) := by decide +kernel
theorem d_Head_spinOnce_8 : decode b_Head_spinOnce 8 = .ok (.iconst 1, 1) := by decide +kernel
theorem d_Head_spinOnce_9 : decode b_Head_spinOnce 9 = .ok (.invokevirtual 55, 3) := by decide +kernel
theorem d_Head_spinOnce_12 : decode b_Head_spinOnce 12 = .ok (.iload_n 2, 1) := by decide +kernel
theorem d_Head_spinOnce_13 : decode b_Head_spinOnce 13 = .ok (.aload_n 0, 1) := by decide +kernel
theorem d_Head_spinOnce_14 : decode b_Head_spinOnce 14 = .ok (.getfield 15, 3) := by decide +kernel
theorem d_Head_spinOnce_17 : decode b_Head_spinOnce 17 = .ok (.invokestatic 64, 3) := by decide +kernel
theorem d_Head_spinOnce_20 : decode b_Head_spinOnce 20 = .ok (.istore 4, 2) := by decide +kernel
theorem d_Head_spinOnce_22 : decode b_Head_spinOnce 22 = .ok (.aload_n 0, 1) := by decide +kernel
theorem d_Head_spinOnce_23 : decode b_Head_spinOnce 23 = .ok (.aload_n 0, 1) := by decide +kernel
theorem d_Head_spinOnce_24 : decode b_Head_spinOnce 24 = .ok (.getfield 18, 3) := by decide +kernel
theorem d_Head_spinOnce_27 : decode b_Head_spinOnce 27 = .ok (.iload_n 3, 1) := by decide +kernel
theorem d_Head_spinOnce_28 : decode b_Head_spinOnce 28 = .ok (.iload 4, 2) := by decide +kernel
theorem d_Head_spinOnce_30 : decode b_Head_spinOnce 30 = .ok (.imul, 1) := by decide +kernel
theorem d_Head_spinOnce_31 : decode b_Head_spinOnce 31 = .ok (.iadd, 1) := by decide +kernel
theorem d_Head_spinOnce_32 : decode b_Head_spinOnce 32 = .ok (.sipush (-9999), 3) := by decide +kernel
theorem d_Head_spinOnce_35 : decode b_Head_spinOnce 35 = .ok (.sipush (9999), 3) := by decide +kernel
theorem d_Head_spinOnce_38 : decode b_Head_spinOnce 38 = .ok (.invokestatic 68, 3) := by decide +kernel
theorem d_Head_spinOnce_41 : decode b_Head_spinOnce 41 = .ok (.putfield 18, 3) := by decide +kernel
theorem d_Head_spinOnce_44 : decode b_Head_spinOnce 44 = .ok (.aload_n 0, 1) := by decide +kernel
theorem d_Head_spinOnce_45 : decode b_Head_spinOnce 45 = .ok (.aload_n 1, 1) := by decide +kernel
theorem d_Head_spinOnce_46 : decode b_Head_spinOnce 46 = .ok (.iconst 1, 1) := by decide +kernel
theorem d_Head_spinOnce_47 : decode b_Head_spinOnce 47 = .ok (.invokevirtual 72, 3) := by decide +kernel
theorem d_Head_spinOnce_50 : decode b_Head_spinOnce 50 = .ok (.return_, 1) := by decide +kernel
abbrev b_Head_spin : ByteArray := prog_2_method_9_code
def y_Head_spin : MethodName := ⟨"RoundAndRound$Head", "spin", "(LRoundAndRound$Text;II)V"⟩
theorem d_Head_spin_0 : decode b_Head_spin 0 = .ok (.iload_n 2, 1) := by decide +kernel
theorem d_Head_spin_1 : decode b_Head_spin 1 = .ok (.invokestatic 46, 3) := by decide +kernel
theorem d_Head_spin_4 : decode b_Head_spin 4 = .ok (.istore 4, 2) := by decide +kernel
theorem d_Head_spin_6 : decode b_Head_spin 6 = .ok (.iconst 0, 1) := by decide +kernel
theorem d_Head_spin_7 : decode b_Head_spin 7 = .ok (.istore 5, 2) := by decide +kernel
theorem d_Head_spin_9 : decode b_Head_spin 9 = .ok (.iload 5, 2) := by decide +kernel
theorem d_Head_spin_11 : decode b_Head_spin 11 = .ok (.iload 4, 2) := by decide +kernel
theorem d_Head_spin_13 : decode b_Head_spin 13 = .ok (.if_icmp .ge 24, 3) := by decide +kernel
theorem d_Head_spin_16 : decode b_Head_spin 16 = .ok (.aload_n 0, 1) := by decide +kernel
theorem d_Head_spin_17 : decode b_Head_spin 17 = .ok (.aload_n 1, 1) := by decide +kernel
theorem d_Head_spin_18 : decode b_Head_spin 18 = .ok (.iload_n 3, 1) := by decide +kernel
theorem d_Head_spin_19 : decode b_Head_spin 19 = .ok (.iload_n 2, 1) := by decide +kernel
theorem d_Head_spin_20 : decode b_Head_spin 20 = .ok (.ifCond .le 7, 3) := by decide +kernel
theorem d_Head_spin_23 : decode b_Head_spin 23 = .ok (.iconst 1, 1) := by decide +kernel
theorem d_Head_spin_24 : decode b_Head_spin 24 = .ok (.goto 4, 3) := by decide +kernel
theorem d_Head_spin_27 : decode b_Head_spin 27 = .ok (.iconst (-1), 1) := by decide +kernel
theorem d_Head_spin_28 : decode b_Head_spin 28 = .ok (.invokevirtual 76, 3) := by decide +kernel
theorem d_Head_spin_31 : decode b_Head_spin 31 = .ok (.iinc 5 (1), 3) := by decide +kernel
theorem d_Head_spin_34 : decode b_Head_spin 34 = .ok (.goto (-25), 3) := by decide +kernel
theorem d_Head_spin_37 : decode b_Head_spin 37 = .ok (.return_, 1) := by decide +kernel
abbrev b_Head_linger : ByteArray := prog_2_method_10_code
def y_Head_linger : MethodName := ⟨"RoundAndRound$Head", "linger", "(LRoundAndRound$Text;II)V"⟩
theorem d_Head_linger_0 : decode b_Head_linger 0 = .ok (.iconst 0, 1) := by decide +kernel
theorem d_Head_linger_1 : decode b_Head_linger 1 = .ok (.istore 4, 2) := by decide +kernel
theorem d_Head_linger_3 : decode b_Head_linger 3 = .ok (.iload 4, 2) := by decide +kernel
theorem d_Head_linger_5 : decode b_Head_linger 5 = .ok (.iload_n 2, 1) := by decide +kernel
theorem d_Head_linger_6 : decode b_Head_linger 6 = .ok (.if_icmp .ge 15, 3) := by decide +kernel
theorem d_Head_linger_9 : decode b_Head_linger 9 = .ok (.aload_n 0, 1) := by decide +kernel
theorem d_Head_linger_10 : decode b_Head_linger 10 = .ok (.aload_n 1, 1) := by decide +kernel
theorem d_Head_linger_11 : decode b_Head_linger 11 = .ok (.iload_n 3, 1) := by decide +kernel
theorem d_Head_linger_12 : decode b_Head_linger 12 = .ok (.invokevirtual 72, 3) := by decide +kernel
theorem d_Head_linger_15 : decode b_Head_linger 15 = .ok (.iinc 4 (1), 3) := by decide +kernel
theorem d_Head_linger_18 : decode b_Head_linger 18 = .ok (.goto (-15), 3) := by decide +kernel
theorem d_Head_linger_21 : decode b_Head_linger 21 = .ok (.return_, 1) := by decide +kernel
abbrev b_Head_step : ByteArray := prog_2_method_11_code
def y_Head_step : MethodName := ⟨"RoundAndRound$Head", "step", "(LRoundAndRound$Text;II)V"⟩
theorem d_Head_step_0 : decode b_Head_step 0 = .ok (.aload_n 0, 1) := by decide +kernel
theorem d_Head_step_1 : decode b_Head_step 1 = .ok (.getfield 36, 3) := by decide +kernel
theorem d_Head_step_4 : decode b_Head_step 4 = .ok (.ifCond .ne 10, 3) := by decide +kernel
theorem d_Head_step_7 : decode b_Head_step 7 = .ok (.aload_n 0, 1) := by decide +kernel
theorem d_Head_step_8 : decode b_Head_step 8 = .ok (.invokevirtual 80, 3) := by decide +kernel
theorem d_Head_step_11 : decode b_Head_step 11 = .ok (.ifCond .eq 9, 3) := by decide +kernel
theorem d_Head_step_14 : decode b_Head_step 14 = .ok (.aload_n 0, 1) := by decide +kernel
theorem d_Head_step_15 : decode b_Head_step 15 = .ok (.iconst 1, 1) := by decide +kernel
theorem d_Head_step_16 : decode b_Head_step 16 = .ok (.putfield 36, 3) := by decide +kernel
theorem d_Head_step_19 : decode b_Head_step 19 = .ok (.return_, 1) := by decide +kernel
theorem d_Head_step_20 : decode b_Head_step 20 = .ok (.aload_n 0, 1) := by decide +kernel
theorem d_Head_step_21 : decode b_Head_step 21 = .ok (.getfield 18, 3) := by decide +kernel
theorem d_Head_step_24 : decode b_Head_step 24 = .ok (.aload_n 1, 1) := by decide +kernel
theorem d_Head_step_25 : decode b_Head_step 25 = .ok (.iconst 2, 1) := by decide +kernel
theorem d_Head_step_26 : decode b_Head_step 26 = .ok (.aload_n 0, 1) := by decide +kernel
theorem d_Head_step_27 : decode b_Head_step 27 = .ok (.iload_n 2, 1) := by decide +kernel
theorem d_Head_step_28 : decode b_Head_step 28 = .ok (.iload_n 3, 1) := by decide +kernel
theorem d_Head_step_29 : decode b_Head_step 29 = .ok (.invokevirtual 55, 3) := by decide +kernel
theorem d_Head_step_32 : decode b_Head_step 32 = .ok (.imul, 1) := by decide +kernel
theorem d_Head_step_33 : decode b_Head_step 33 = .ok (.sipush (1000), 3) := by decide +kernel
theorem d_Head_step_36 : decode b_Head_step 36 = .ok (.idiv, 1) := by decide +kernel
theorem d_Head_step_37 : decode b_Head_step 37 = .ok (.istore 4, 2) := by decide +kernel
theorem d_Head_step_39 : decode b_Head_step 39 = .ok (.aload_n 0, 1) := by decide +kernel
theorem d_Head_step_40 : decode b_Head_step 40 = .ok (.aload_n 0, 1) := by decide +kernel
theorem d_Head_step_41 : decode b_Head_step 41 = .ok (.getfield 30, 3) := by decide +kernel
theorem d_Head_step_44 : decode b_Head_step 44 = .ok (.iload_n 2, 1) := by decide +kernel
theorem d_Head_step_45 : decode b_Head_step 45 = .ok (.iadd, 1) := by decide +kernel
theorem d_Head_step_46 : decode b_Head_step 46 = .ok (.ldc 84, 2) := by decide +kernel
theorem d_Head_step_48 : decode b_Head_step 48 = .ok (.ldc 85, 2) := by decide +kernel
theorem d_Head_step_50 : decode b_Head_step 50 = .ok (.invokestatic 68, 3) := by decide +kernel
theorem d_Head_step_53 : decode b_Head_step 53 = .ok (.putfield 30, 3) := by decide +kernel
theorem d_Head_step_56 : decode b_Head_step 56 = .ok (.aload_n 0, 1) := by decide +kernel
theorem d_Head_step_57 : decode b_Head_step 57 = .ok (.aload_n 0, 1) := by decide +kernel
theorem d_Head_step_58 : decode b_Head_step 58 = .ok (.getfield 33, 3) := by decide +kernel
theorem d_Head_step_61 : decode b_Head_step 61 = .ok (.iload 4, 2) := by decide +kernel
theorem d_Head_step_63 : decode b_Head_step 63 = .ok (.iadd, 1) := by decide +kernel
theorem d_Head_step_64 : decode b_Head_step 64 = .ok (.ldc 84, 2) := by decide +kernel
theorem d_Head_step_66 : decode b_Head_step 66 = .ok (.ldc 85, 2) := by decide +kernel
theorem d_Head_step_68 : decode b_Head_step 68 = .ok (.invokestatic 68, 3) := by decide +kernel
theorem d_Head_step_71 : decode b_Head_step 71 = .ok (.putfield 33, 3) := by decide +kernel
theorem d_Head_step_74 : decode b_Head_step 74 = .ok (.aload_n 0, 1) := by decide +kernel
theorem d_Head_step_75 : decode b_Head_step 75 = .ok (.aload_n 1, 1) := by decide +kernel
theorem d_Head_step_76 : decode b_Head_step 76 = .ok (.iload_n 3, 1) := by decide +kernel
theorem d_Head_step_77 : decode b_Head_step 77 = .ok (.invokevirtual 72, 3) := by decide +kernel
theorem d_Head_step_80 : decode b_Head_step 80 = .ok (.return_, 1) := by decide +kernel
abbrev b_Head_goOn : ByteArray := prog_2_method_12_code
def y_Head_goOn : MethodName := ⟨"RoundAndRound$Head", "goOn", "(LRoundAndRound$Text;III)I"⟩
theorem d_Head_goOn_0 : decode b_Head_goOn 0 = .ok (.iconst 0, 1) := by decide +kernel
theorem d_Head_goOn_1 : decode b_Head_goOn 1 = .ok (.istore 5, 2) := by decide +kernel
theorem d_Head_goOn_3 : decode b_Head_goOn 3 = .ok (.iload 5, 2) := by decide +kernel
theorem d_Head_goOn_5 : decode b_Head_goOn 5 = .ok (.iload_n 2, 1) := by decide +kernel
theorem d_Head_goOn_6 : decode b_Head_goOn 6 = .ok (.if_icmp .ge 36, 3) := by decide +kernel
theorem d_Head_goOn_9 : decode b_Head_goOn 9 = .ok (.aload_n 0, 1) := by decide +kernel
theorem d_Head_goOn_10 : decode b_Head_goOn 10 = .ok (.getfield 36, 3) := by decide +kernel
theorem d_Head_goOn_13 : decode b_Head_goOn 13 = .ok (.ifCond .eq 5, 3) := by decide +kernel
theorem d_Head_goOn_16 : decode b_Head_goOn 16 = .ok (.iconst (-1), 1) := by decide +kernel
theorem d_Head_goOn_17 : decode b_Head_goOn 17 = .ok (.ireturn, 1) := by decide +kernel
theorem d_Head_goOn_18 : decode b_Head_goOn 18 = .ok (.aload_n 0, 1) := by decide +kernel
theorem d_Head_goOn_19 : decode b_Head_goOn 19 = .ok (.aload_n 1, 1) := by decide +kernel
theorem d_Head_goOn_20 : decode b_Head_goOn 20 = .ok (.iload_n 3, 1) := by decide +kernel
theorem d_Head_goOn_21 : decode b_Head_goOn 21 = .ok (.iload 4, 2) := by decide +kernel
theorem d_Head_goOn_23 : decode b_Head_goOn 23 = .ok (.invokevirtual 86, 3) := by decide +kernel
theorem d_Head_goOn_26 : decode b_Head_goOn 26 = .ok (.aload_n 0, 1) := by decide +kernel
theorem d_Head_goOn_27 : decode b_Head_goOn 27 = .ok (.getfield 36, 3) := by decide +kernel
theorem d_Head_goOn_30 : decode b_Head_goOn 30 = .ok (.ifCond .eq 6, 3) := by decide +kernel
theorem d_Head_goOn_33 : decode b_Head_goOn 33 = .ok (.iload 5, 2) := by decide +kernel
theorem d_Head_goOn_35 : decode b_Head_goOn 35 = .ok (.ireturn, 1) := by decide +kernel
theorem d_Head_goOn_36 : decode b_Head_goOn 36 = .ok (.iinc 5 (1), 3) := by decide +kernel
theorem d_Head_goOn_39 : decode b_Head_goOn 39 = .ok (.goto (-36), 3) := by decide +kernel
theorem d_Head_goOn_42 : decode b_Head_goOn 42 = .ok (.iconst (-1), 1) := by decide +kernel
theorem d_Head_goOn_43 : decode b_Head_goOn 43 = .ok (.ireturn, 1) := by decide +kernel
