theorem c_Head_standAtStart (l : Launch) (G : xG) {d : Nat} (nn : Nat) (Y : xY) (I : xI) (hd : 1 ≤ d) (h : Nat) (hh : Y h = some sHead) : XM l G d y_Head_standAtStart b_Head_standAtStart 1 (none) 0 0 xK0 [.ref (xg G h)] nn (xm G Y I) (none) nn (xm G Y (xup I h (hStd (I h)))) := by
  refine XM.of (by decide) (Nat.le_of_ble_eq_true rfl) (L := [(0, .ref (xg G h))]) rfl ?_
  refine X_aload_n d_Head_standAtStart_0 rfl rfl ?_
  refine X_iconst (v := 0) d_Head_standAtStart_1 rfl ?_
  refine X_putI fp_Head_30 hh rfl d_Head_standAtStart_2 ?_
  refine X_aload_n d_Head_standAtStart_5 rfl rfl ?_
  refine X_iconst (v := 0) d_Head_standAtStart_6 rfl ?_
  refine X_putI fp_Head_33 hh rfl d_Head_standAtStart_7 ?_
  refine X_aload_n d_Head_standAtStart_10 rfl rfl ?_
  refine X_iconst (v := 0) d_Head_standAtStart_11 rfl ?_
  refine X_putZ fp_Head_36 hh rfl (by decide) d_Head_standAtStart_12 ?_
  exact X_vret rfl rfl (xle_of (congrArg (xm G Y) (by simp only [xw_is, xup_s, xup_up, hStd]))) d_Head_standAtStart_15
theorem c_Head_begin (l : Launch) (G : xG) {d : Nat} (nn : Nat) (Y : xY) (I : xI) (hd : 2 ≤ d) (h : Nat) (hh : Y h = some sHead) (k m : Int32) : XM l G d y_Head_begin b_Head_begin 3 (none) 0 0 xK0 [.ref (xg G h), .int k, .int m] nn (xm G Y I) (none) nn (xm G Y (xup I h (hBegin k m (I h)))) := by
  refine XM.of (by decide) (Nat.le_of_ble_eq_true rfl) (L := [(0, .ref (xg G h)), (1, .int k), (2, .int m)]) rfl ?_
  refine X_aload_n d_Head_begin_0 rfl rfl ?_
  refine X_iload_n d_Head_begin_1 rfl rfl ?_
  refine X_putI fp_Head_9 hh rfl d_Head_begin_2 ?_
  refine X_aload_n d_Head_begin_5 rfl rfl ?_
  refine X_iload_n d_Head_begin_6 rfl rfl ?_
  refine X_putI fp_Head_15 hh rfl d_Head_begin_7 ?_
  refine X_aload_n d_Head_begin_10 rfl rfl ?_
  refine X_iconst (v := 0) d_Head_begin_11 rfl ?_
  refine X_putI fp_Head_18 hh rfl d_Head_begin_12 ?_
  refine X_aload_n d_Head_begin_15 rfl rfl ?_
  refine X_iconst (v := 0) d_Head_begin_16 rfl ?_
  refine X_putI fp_Head_21 hh rfl d_Head_begin_17 ?_
  refine X_aload_n d_Head_begin_20 rfl rfl ?_
  refine X_iconst (v := 0) d_Head_begin_21 rfl ?_
  refine X_putI fp_Head_24 hh rfl d_Head_begin_22 ?_
  refine X_aload_n d_Head_begin_25 rfl rfl ?_
  generalize e_1 : xw (xw (xw (xw (xw I h 0 k) h 1 m) h 2 0) h 3 0) h 4 0 = I_2
  refine X_callVv (rest := []) (c_Head_standAtStart l G nn Y I_2 (by omega) h hh) lk_Head_standAtStart ml_Head_27 (xm_obj hh) rfl rfl (Nat.le_of_ble_eq_true rfl) (xRok (d' := d - 1) (by omega) (by decide)) ⟨Nat.le_refl _, Nat.le_refl _⟩ d_Head_begin_26 rfl ?_
  exact X_vret rfl rfl (xle_of (congrArg (xm G Y) (by simp only [← e_1, hBegin, xw_is, xup_s, xup_up]))) d_Head_begin_29
theorem c_Head_fallsFrom (l : Launch) (G : xG) {d : Nat} (nn : Nat) (Y : xY) (I : xI) (hd : 2 ≤ d) (h : Nat) (hh : Y h = some sHead) : XM l G d y_Head_fallsFrom b_Head_fallsFrom 1 (some .int) 0 0 xK0 [.ref (xg G h)] nn (xm G Y I) (some (.int (kFalls (I h 0) (I h 1)))) nn (xm G Y (I)) := by
  refine XM.of (by decide) (Nat.le_of_ble_eq_true rfl) (L := [(0, .ref (xg G h))]) rfl ?_
  refine X_aload_n d_Head_fallsFrom_0 rfl rfl ?_
  refine X_getI (v := I h 0) fg_Head_9 hh rfl (rfl) d_Head_fallsFrom_1 ?_
  refine X_aload_n d_Head_fallsFrom_4 rfl rfl ?_
  refine X_getI (v := I h 1) fg_Head_15 hh rfl (rfl) d_Head_fallsFrom_5 ?_
  refine X_callS (v := .int (kFalls (I h 0) (I h 1))) (rest := []) (c_Kind_fallsFrom l G nn _ (by omega) (I h 0) (I h 1)) lk_Kind_fallsFrom ml_Head_40 rfl (Nat.le_of_ble_eq_true rfl) (xRok (d' := d - 1) (by omega) (by decide)) ⟨Nat.le_refl _, Nat.le_refl _⟩ d_Head_fallsFrom_8 rfl ?_
  exact X_iret rfl (congrArg (fun q => some (Value.int q)) (by rfl)) (xle_rf _) d_Head_fallsFrom_11
theorem c_Head_mustFall (l : Launch) (G : xG) {d : Nat} (nn : Nat) (Y : xY) (I : xI) (hd : 3 ≤ d) (h : Nat) (hh : Y h = some sHead) : XM l G d y_Head_mustFall b_Head_mustFall 1 (some .boolean) 0 0 xK0 [.ref (xg G h)] nn (xm G Y I) (some (.int (xb (hMust (I h))))) nn (xm G Y (I)) := by
  refine XM.of (by decide) (Nat.le_of_ble_eq_true rfl) (L := [(0, .ref (xg G h))]) rfl ?_
  refine X_aload_n d_Head_mustFall_0 rfl rfl ?_
  refine X_getI (v := I h 2) fg_Head_18 hh rfl (rfl) d_Head_mustFall_1 ?_
  refine X_mabsx ml_Head_46 mt_abs mi_math mc_abs (xRm (by omega) (Nat.le_of_ble_eq_true rfl)) ⟨Nat.zero_le _, Nat.zero_le _⟩ d_Head_mustFall_4 ?_
  refine X_aload_n d_Head_mustFall_7 rfl rfl ?_
  refine X_callV (v := .int (kFalls (I h 0) (I h 1))) (rest := [.int (xabs (I h 2))]) (c_Head_fallsFrom l G nn Y I (by omega) h hh) lk_Head_fallsFrom ml_Head_52 (xm_obj hh) rfl rfl (Nat.le_of_ble_eq_true rfl) (xRok (d' := d - 1) (by omega) (by decide)) ⟨Nat.le_refl _, Nat.le_refl _⟩ d_Head_mustFall_8 rfl ?_
  refine X_icmp_lt (tgt := 18) d_Head_mustFall_11 (by decide) (fun c_1 => ?_) (fun c_1 => ?_)
  ·
    refine X_iconst (v := 0) d_Head_mustFall_18 rfl ?_
    exact X_zret rfl rfl (congrArg (fun q => some (Value.int q)) (by simp [hMust, xb, c_1, Int32.not_le.mpr c_1])) (xle_rf _) d_Head_mustFall_19
  ·
    refine X_iconst (v := 1) d_Head_mustFall_14 rfl ?_
    refine X_goto (tgt := 19) d_Head_mustFall_15 (by decide) ?_
    exact X_zret rfl rfl (congrArg (fun q => some (Value.int q)) (by simp [hMust, xb, c_1, Int32.not_lt.mp c_1])) (xle_rf _) d_Head_mustFall_19
theorem c_Head_become (l : Launch) (G : xG) {d : Nat} (nn : Nat) (Y : xY) (I : xI) (hd : 1 ≤ d) (h : Nat) (hh : Y h = some sHead) (o : Nat) (ho : Y o = some sHead) (hne : o ≠ h) (h7 : I o 7 = 0 ∨ I o 7 = 1) : XM l G d y_Head_become b_Head_become 2 (none) 0 0 xK0 [.ref (xg G h), .ref (xg G o)] nn (xm G Y I) (none) nn (xm G Y (xup I h (hBe (I o) (I h)))) := by
  refine XM.of (by decide) (Nat.le_of_ble_eq_true rfl) (L := [(0, .ref (xg G h)), (1, .ref (xg G o))]) rfl ?_
  refine X_aload_n d_Head_become_0 rfl rfl ?_
  refine X_aload_n d_Head_become_1 rfl rfl ?_
  refine X_getI (v := I o 0) fg_Head_9 ho rfl (rfl) d_Head_become_2 ?_
  refine X_putI fp_Head_9 hh rfl d_Head_become_5 ?_
  refine X_aload_n d_Head_become_8 rfl rfl ?_
  refine X_aload_n d_Head_become_9 rfl rfl ?_
  refine X_getI (v := I o 1) fg_Head_15 ho rfl (xw_a _ _ _ _ hne) d_Head_become_10 ?_
  refine X_putI fp_Head_15 hh rfl d_Head_become_13 ?_
  refine X_aload_n d_Head_become_16 rfl rfl ?_
  refine X_aload_n d_Head_become_17 rfl rfl ?_
  refine X_getI (v := I o 2) fg_Head_18 ho rfl ((xw_a _ _ _ _ hne).trans (xw_a _ _ _ _ hne)) d_Head_become_18 ?_
  refine X_putI fp_Head_18 hh rfl d_Head_become_21 ?_
  refine X_aload_n d_Head_become_24 rfl rfl ?_
  refine X_aload_n d_Head_become_25 rfl rfl ?_
  refine X_getI (v := I o 3) fg_Head_21 ho rfl ((xw_a _ _ _ _ hne).trans ((xw_a _ _ _ _ hne).trans (xw_a _ _ _ _ hne))) d_Head_become_26 ?_
  refine X_putI fp_Head_21 hh rfl d_Head_become_29 ?_
  refine X_aload_n d_Head_become_32 rfl rfl ?_
  refine X_aload_n d_Head_become_33 rfl rfl ?_
  refine X_getI (v := I o 4) fg_Head_24 ho rfl ((xw_a _ _ _ _ hne).trans ((xw_a _ _ _ _ hne).trans ((xw_a _ _ _ _ hne).trans (xw_a _ _ _ _ hne)))) d_Head_become_34 ?_
  refine X_putI fp_Head_24 hh rfl d_Head_become_37 ?_
  refine X_aload_n d_Head_become_40 rfl rfl ?_
  refine X_aload_n d_Head_become_41 rfl rfl ?_
  refine X_getI (v := I o 5) fg_Head_30 ho rfl ((xw_a _ _ _ _ hne).trans ((xw_a _ _ _ _ hne).trans ((xw_a _ _ _ _ hne).trans ((xw_a _ _ _ _ hne).trans (xw_a _ _ _ _ hne))))) d_Head_become_42 ?_
  refine X_putI fp_Head_30 hh rfl d_Head_become_45 ?_
  refine X_aload_n d_Head_become_48 rfl rfl ?_
  refine X_aload_n d_Head_become_49 rfl rfl ?_
  refine X_getI (v := I o 6) fg_Head_33 ho rfl ((xw_a _ _ _ _ hne).trans ((xw_a _ _ _ _ hne).trans ((xw_a _ _ _ _ hne).trans ((xw_a _ _ _ _ hne).trans ((xw_a _ _ _ _ hne).trans (xw_a _ _ _ _ hne)))))) d_Head_become_50 ?_
  refine X_putI fp_Head_33 hh rfl d_Head_become_53 ?_
  refine X_aload_n d_Head_become_56 rfl rfl ?_
  refine X_aload_n d_Head_become_57 rfl rfl ?_
  refine X_getI (v := I o 7) fg_Head_36 ho rfl ((xw_a _ _ _ _ hne).trans ((xw_a _ _ _ _ hne).trans ((xw_a _ _ _ _ hne).trans ((xw_a _ _ _ _ hne).trans ((xw_a _ _ _ _ hne).trans ((xw_a _ _ _ _ hne).trans (xw_a _ _ _ _ hne))))))) d_Head_become_58 ?_
  refine X_putZ fp_Head_36 hh rfl (by first | decide | simp_all) d_Head_become_61 ?_
  exact X_vret rfl rfl (xle_of (congrArg (xm G Y) (by simp only [xw_is, xup_s, xup_up, hBe]))) d_Head_become_64
theorem c_Head_fade (l : Launch) (G : xG) {d : Nat} (nn : Nat) (Y : xY) (I : xI) (hd : 6 ≤ d) (h : Nat) (hh : Y h = some sHead) (t : Nat) (S : xSay) (hT : xTx Y I t S) (eyes : Int32) : XM l G d y_Head_fade b_Head_fade 4 (none) 0 0 xK0 [.ref (xg G h), .ref (xg G t), .int eyes] nn (xm G Y I) (none) nn (xm G Y (xup I h (hFade S eyes (I h)))) := by
  refine XM.of (by decide) (Nat.le_of_ble_eq_true rfl) (L := [(0, .ref (xg G h)), (1, .ref (xg G t)), (2, .int eyes)]) rfl ?_
  refine X_aload_n d_Head_fade_0 rfl rfl ?_
  refine X_getI (v := I h 0) fg_Head_9 hh rfl (rfl) d_Head_fade_1 ?_
  refine X_aload_n d_Head_fade_4 rfl rfl ?_
  refine X_iconst (v := 1) d_Head_fade_5 rfl ?_
  refine X_aload_n d_Head_fade_6 rfl rfl ?_
  refine X_iconst (v := 0) d_Head_fade_7 rfl ?_
  refine X_iload_n d_Head_fade_8 rfl rfl ?_
  refine X_callV (v := .int (S 1 0 eyes (I h))) (rest := [.int (I h 0)]) (c_Text_says l G nn Y I (by omega) t S hT h hh 1 0 eyes (Or.inr (Or.inl rfl))) lk_Text_says ml_Head_55 (xm_obj hT.1.1) rfl rfl (Nat.le_of_ble_eq_true rfl) (xRok (d' := d - 1) (by omega) (by decide)) ⟨Nat.le_refl _, Nat.le_refl _⟩ d_Head_fade_9 rfl ?_
  refine X_callS (v := .int (kFades (I h 0) (S 1 0 eyes (I h)))) (rest := []) (c_Kind_fades l G nn _ (by omega) (I h 0) (S 1 0 eyes (I h))) lk_Kind_fades ml_Head_61 rfl (Nat.le_of_ble_eq_true rfl) (xRok (d' := d - 1) (by omega) (by decide)) ⟨Nat.le_refl _, Nat.le_refl _⟩ d_Head_fade_12 rfl ?_
  refine X_istore_n d_Head_fade_15 rfl (by decide) [1, 2, 3, 0] (L' := [(0, .ref (xg G h)), (1, .ref (xg G t)), (2, .int eyes), (3, .int (kFades (I h 0) (S 1 0 eyes (I h))))]) rfl ?_
  refine X_aload_n d_Head_fade_16 rfl rfl ?_
  refine X_dup d_Head_fade_17 rfl ?_
  refine X_getI (v := I h 2) fg_Head_18 hh rfl (rfl) d_Head_fade_18 ?_
  refine X_aload_n d_Head_fade_21 rfl rfl ?_
  refine X_getI (v := I h 2) fg_Head_18 hh rfl (rfl) d_Head_fade_22 ?_
  refine X_iload_n d_Head_fade_25 rfl rfl ?_
  refine X_imul d_Head_fade_26 ?_
  refine X_bipush (v := 100) d_Head_fade_27 rfl ?_
  refine X_idiv d_Head_fade_29 (by decide) ?_
  refine X_isub d_Head_fade_30 ?_
  refine X_putI fp_Head_18 hh rfl d_Head_fade_31 ?_
  exact X_vret rfl rfl (xle_of (congrArg (xm G Y) (by simp only [hFade, xw_is, xup_s, xup_up]))) d_Head_fade_34
theorem c_Head_spinOnce (l : Launch) (G : xG) {d : Nat} (nn : Nat) (Y : xY) (I : xI) (hd : 7 ≤ d) (h : Nat) (hh : Y h = some sHead) (t : Nat) (S : xSay) (hT : xTx Y I t S) (speed side : Int32) : XM l G d y_Head_spinOnce b_Head_spinOnce 5 (none) 0 0 xK0 [.ref (xg G h), .ref (xg G t), .int speed, .int side] nn (xm G Y I) (none) nn (xm G Y (xup I h (hSpin1 S speed side (I h)))) := by
  refine XM.of (by decide) (Nat.le_of_ble_eq_true rfl) (L := [(0, .ref (xg G h)), (1, .ref (xg G t)), (2, .int speed), (3, .int side)]) rfl ?_
  refine X_aload_n d_Head_spinOnce_0 rfl rfl ?_
  refine X_getI (v := I h 0) fg_Head_9 hh rfl (rfl) d_Head_spinOnce_1 ?_
  refine X_aload_n d_Head_spinOnce_4 rfl rfl ?_
  refine X_iconst (v := 0) d_Head_spinOnce_5 rfl ?_
  refine X_aload_n d_Head_spinOnce_6 rfl rfl ?_
  refine X_iload_n d_Head_spinOnce_7 rfl rfl ?_
  refine X_iconst (v := 1) d_Head_spinOnce_8 rfl ?_
  refine X_callV (v := .int (S 0 speed 1 (I h))) (rest := [.int (I h 0)]) (c_Text_says l G nn Y I (by omega) t S hT h hh 0 speed 1 (Or.inl rfl)) lk_Text_says ml_Head_55 (xm_obj hT.1.1) rfl rfl (Nat.le_of_ble_eq_true rfl) (xRok (d' := d - 1) (by omega) (by decide)) ⟨Nat.le_refl _, Nat.le_refl _⟩ d_Head_spinOnce_9 rfl ?_
  refine X_iload_n d_Head_spinOnce_12 rfl rfl ?_
  refine X_aload_n d_Head_spinOnce_13 rfl rfl ?_
  refine X_getI (v := I h 1) fg_Head_15 hh rfl (rfl) d_Head_spinOnce_14 ?_
  refine X_callS (v := .int (kBuilds (I h 0) (S 0 speed 1 (I h)) speed (I h 1))) (rest := []) (c_Kind_builds l G nn _ (by omega) (I h 0) (S 0 speed 1 (I h)) speed (I h 1)) lk_Kind_builds ml_Head_64 rfl (Nat.le_of_ble_eq_true rfl) (xRok (d' := d - 1) (by omega) (by decide)) ⟨Nat.le_refl _, Nat.le_refl _⟩ d_Head_spinOnce_17 rfl ?_
  refine X_istore d_Head_spinOnce_20 (by decide) [1, 2, 3, 4, 0] (L' := [(0, .ref (xg G h)), (1, .ref (xg G t)), (2, .int speed), (3, .int side), (4, .int (kBuilds (I h 0) (S 0 speed 1 (I h)) speed (I h 1)))]) rfl ?_
  refine X_aload_n d_Head_spinOnce_22 rfl rfl ?_
  refine X_aload_n d_Head_spinOnce_23 rfl rfl ?_
  refine X_getI (v := I h 2) fg_Head_18 hh rfl (rfl) d_Head_spinOnce_24 ?_
  refine X_iload_n d_Head_spinOnce_27 rfl rfl ?_
  refine X_iload d_Head_spinOnce_28 rfl ?_
  refine X_imul d_Head_spinOnce_30 ?_
  refine X_iadd d_Head_spinOnce_31 ?_
  refine X_sipush (v := -9999) d_Head_spinOnce_32 rfl ?_
  refine X_sipush (v := 9999) d_Head_spinOnce_35 rfl ?_
  refine X_callSN (v := .int (xbd ((I h 2) + (side * (kBuilds (I h 0) (S 0 speed 1 (I h)) speed (I h 1)))) (-9999) 9999)) (rest := [.ref (xg G h)]) (c_X_bounded l G nn _ (by omega) ((I h 2) + (side * (kBuilds (I h 0) (S 0 speed 1 (I h)) speed (I h 1)))) (-9999) 9999 (by decide)) lk_X_bounded mn_Head_68 rfl (Nat.le_of_ble_eq_true rfl) (xRok (d' := d - 1) (by omega) (by decide)) ⟨Nat.le_refl _, Nat.le_refl _⟩ d_Head_spinOnce_38 rfl ?_
  refine X_putI fp_Head_18 hh rfl d_Head_spinOnce_41 ?_
  refine X_aload_n d_Head_spinOnce_44 rfl rfl ?_
  refine X_aload_n d_Head_spinOnce_45 rfl rfl ?_
  refine X_iconst (v := 1) d_Head_spinOnce_46 rfl ?_
  generalize e_1 : xw I h 2 (xbd ((I h 2) + (side * (kBuilds (I h 0) (S 0 speed 1 (I h)) speed (I h 1)))) (-9999) 9999) = I_2
  refine X_callVv (rest := []) (c_Head_fade l G nn Y I_2 (by omega) h hh t S (by rw [← e_1]; exact (xTx_up hT hh)) 1) lk_Head_fade ml_Head_72 (xm_obj hh) rfl rfl (Nat.le_of_ble_eq_true rfl) (xRok (d' := d - 1) (by omega) (by decide)) ⟨Nat.le_refl _, Nat.le_refl _⟩ d_Head_spinOnce_47 rfl ?_
  exact X_vret rfl rfl (xle_of (congrArg (xm G Y) (by simp only [← e_1, hSpin1, xw_is, xup_s, xup_up]))) d_Head_spinOnce_50
theorem c_Head_step (l : Launch) (G : xG) {d : Nat} (nn : Nat) (Y : xY) (I : xI) (hd : 7 ≤ d) (h : Nat) (hh : Y h = some sHead) (t : Nat) (S : xSay) (hT : xTx Y I t S) (pace eyes : Int32) : XM l G d y_Head_step b_Head_step 5 (none) 0 0 xK0 [.ref (xg G h), .ref (xg G t), .int pace, .int eyes] nn (xm G Y I) (none) nn (xm G Y (xup I h (hStep S pace eyes (I h)))) := by
  refine XM.of (by decide) (Nat.le_of_ble_eq_true rfl) (L := [(0, .ref (xg G h)), (1, .ref (xg G t)), (2, .int pace), (3, .int eyes)]) rfl ?_
  refine X_aload_n d_Head_step_0 rfl rfl ?_
  refine X_getI (v := I h 7) fg_Head_36 hh rfl (rfl) d_Head_step_1 ?_
  refine X_if_ne (tgt := 14) d_Head_step_4 (by decide) (fun c_1 => ?_) (fun c_1 => ?_)
  ·
    refine X_aload_n d_Head_step_14 rfl rfl ?_
    refine X_iconst (v := 1) d_Head_step_15 rfl ?_
    refine X_putZ fp_Head_36 hh rfl (by decide) d_Head_step_16 ?_
    exact X_vret rfl rfl (xle_of (congrArg (xm G Y) (by simp only [hStep, xw_is, xup_s, xup_up, ]; simp [c_1]))) d_Head_step_19
  ·
    refine X_aload_n d_Head_step_7 rfl rfl ?_
    refine X_callV (v := .int (xb (hMust (I h)))) (rest := []) (c_Head_mustFall l G nn Y I (by omega) h hh) lk_Head_mustFall ml_Head_80 (xm_obj hh) rfl rfl (Nat.le_of_ble_eq_true rfl) (xRok (d' := d - 1) (by omega) (by decide)) ⟨Nat.le_refl _, Nat.le_refl _⟩ d_Head_step_8 rfl ?_
    refine X_ifb_eq (tgt := 20) d_Head_step_11 (by decide) (fun c_2 => ?_) (fun c_2 => ?_)
    ·
      refine X_aload_n d_Head_step_20 rfl rfl ?_
      refine X_getI (v := I h 2) fg_Head_18 hh rfl (rfl) d_Head_step_21 ?_
      refine X_aload_n d_Head_step_24 rfl rfl ?_
      refine X_iconst (v := 2) d_Head_step_25 rfl ?_
      refine X_aload_n d_Head_step_26 rfl rfl ?_
      refine X_iload_n d_Head_step_27 rfl rfl ?_
      refine X_iload_n d_Head_step_28 rfl rfl ?_
      refine X_callV (v := .int (S 2 pace eyes (I h))) (rest := [.int (I h 2)]) (c_Text_says l G nn Y I (by omega) t S hT h hh 2 pace eyes (Or.inr (Or.inr rfl))) lk_Text_says ml_Head_55 (xm_obj hT.1.1) rfl rfl (Nat.le_of_ble_eq_true rfl) (xRok (d' := d - 1) (by omega) (by decide)) ⟨Nat.le_refl _, Nat.le_refl _⟩ d_Head_step_29 rfl ?_
      refine X_imul d_Head_step_32 ?_
      refine X_sipush (v := 1000) d_Head_step_33 rfl ?_
      refine X_idiv d_Head_step_36 (by decide) ?_
      refine X_istore d_Head_step_37 (by decide) [1, 2, 3, 4, 0] (L' := [(0, .ref (xg G h)), (1, .ref (xg G t)), (2, .int pace), (3, .int eyes), (4, .int (((I h 2) * (S 2 pace eyes (I h))) / 1000))]) rfl ?_
      refine X_aload_n d_Head_step_39 rfl rfl ?_
      refine X_aload_n d_Head_step_40 rfl rfl ?_
      refine X_getI (v := I h 5) fg_Head_30 hh rfl (rfl) d_Head_step_41 ?_
      refine X_iload_n d_Head_step_44 rfl rfl ?_
      refine X_iadd d_Head_step_45 ?_
      refine X_ldc cs_Head_84 d_Head_step_46 ?_
      refine X_ldc cs_Head_85 d_Head_step_48 ?_
      refine X_callSN (v := .int (xbd ((I h 5) + pace) (-99999) 99999)) (rest := [.ref (xg G h)]) (c_X_bounded l G nn _ (by omega) ((I h 5) + pace) (-99999) 99999 (by decide)) lk_X_bounded mn_Head_68 rfl (Nat.le_of_ble_eq_true rfl) (xRok (d' := d - 1) (by omega) (by decide)) ⟨Nat.le_refl _, Nat.le_refl _⟩ d_Head_step_50 rfl ?_
      refine X_putI fp_Head_30 hh rfl d_Head_step_53 ?_
      refine X_aload_n d_Head_step_56 rfl rfl ?_
      refine X_aload_n d_Head_step_57 rfl rfl ?_
      refine X_getI (v := I h 6) fg_Head_33 hh rfl (xw_k _ _ _ (by decide)) d_Head_step_58 ?_
      refine X_iload d_Head_step_61 rfl ?_
      refine X_iadd d_Head_step_63 ?_
      refine X_ldc cs_Head_84 d_Head_step_64 ?_
      refine X_ldc cs_Head_85 d_Head_step_66 ?_
      refine X_callSN (v := .int (xbd ((I h 6) + (((I h 2) * (S 2 pace eyes (I h))) / 1000)) (-99999) 99999)) (rest := [.ref (xg G h)]) (c_X_bounded l G nn _ (by omega) ((I h 6) + (((I h 2) * (S 2 pace eyes (I h))) / 1000)) (-99999) 99999 (by decide)) lk_X_bounded mn_Head_68 rfl (Nat.le_of_ble_eq_true rfl) (xRok (d' := d - 1) (by omega) (by decide)) ⟨Nat.le_refl _, Nat.le_refl _⟩ d_Head_step_68 rfl ?_
      refine X_putI fp_Head_33 hh rfl d_Head_step_71 ?_
      refine X_aload_n d_Head_step_74 rfl rfl ?_
      refine X_aload_n d_Head_step_75 rfl rfl ?_
      refine X_iload_n d_Head_step_76 rfl rfl ?_
      generalize e_3 : xw (xw I h 5 (xbd ((I h 5) + pace) (-99999) 99999)) h 6 (xbd ((I h 6) + (((I h 2) * (S 2 pace eyes (I h))) / 1000)) (-99999) 99999) = I_4
      refine X_callVv (rest := []) (c_Head_fade l G nn Y I_4 (by omega) h hh t S (by rw [← e_3]; exact (xTx_up (xTx_up hT hh) hh)) eyes) lk_Head_fade ml_Head_72 (xm_obj hh) rfl rfl (Nat.le_of_ble_eq_true rfl) (xRok (d' := d - 1) (by omega) (by decide)) ⟨Nat.le_refl _, Nat.le_refl _⟩ d_Head_step_77 rfl ?_
      exact X_vret rfl rfl (xle_of (congrArg (xm G Y) (by simp only [← e_3, hStep, xw_is, xup_s, xup_up, ]; simp [c_1, c_2]))) d_Head_step_80
    ·
      refine X_aload_n d_Head_step_14 rfl rfl ?_
      refine X_iconst (v := 1) d_Head_step_15 rfl ?_
      refine X_putZ fp_Head_36 hh rfl (by decide) d_Head_step_16 ?_
      exact X_vret rfl rfl (xle_of (congrArg (xm G Y) (by simp only [hStep, xw_is, xup_s, xup_up, ]; simp [c_1, c_2]))) d_Head_step_19
