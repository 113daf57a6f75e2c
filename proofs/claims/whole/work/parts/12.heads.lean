theorem c_Head_standAtStart (l : Launch) (G : xG) {d : Nat} (nn : Nat) (Y : xY) (I : xI) (hd : 1 ≤ d) (h : Nat) (hh : Y h = some sHead) : XM l G d y_Head_standAtStart b_Head_standAtStart 1 (none) 0 0 xK0 [.ref (xg G h)] nn (xm G Y I) (none) nn (xm G Y (xup I h (hStd (I h)))) := by
  refine XM.of (by decide) (Nat.le_of_ble_eq_true rfl) (L := [(0, .ref (xg G h))]) rfl ?_
  refine X_aload_n d_Head_standAtStart_0 rfl rfl ?_
  refine X_iconst (v := 0) d_Head_standAtStart_1 rfl ?_
  refine X_putI fp_Head_30 hh rfl d_Head_standAtStart_2 ?_
  refine X_aload_n d_Head_standAtStart_5 rfl rfl ?_
  refine X_iconst (v := 0) d_Head_standAtStart_6 rfl ?_
  refine X_putI fp_Head_33 hh rfl d_Head_standAtStart_7 ?_
  refine X_aload_n d_Head_standAtStart_10 rfl rfl ?_
  refine X_iconst (v := 0) d_Head_standAtStart_11 rfl ?_
  refine X_putZ fp_Head_36 hh rfl (by decide) d_Head_standAtStart_12 ?_
  exact X_vret rfl rfl (xle_of (congrArg (xm G Y) (by simp only [xw_is, xup_s, xup_up, hStd]))) d_Head_standAtStart_15
theorem c_Head_begin (l : Launch) (G : xG) {d : Nat} (nn : Nat) (Y : xY) (I : xI) (hd : 2 ≤ d) (h : Nat) (hh : Y h = some sHead) (k m : Int32) : XM l G d y_Head_begin b_Head_begin 3 (none) 0 0 xK0 [.ref (xg G h), .int k, .int m] nn (xm G Y I) (none) nn (xm G Y (xup I h (hBegin k m (I h)))) := by
  refine XM.of (by decide) (Nat.le_of_ble_eq_true rfl) (L := [(0, .ref (xg G h)), (1, .int k), (2, .int m)]) rfl ?_
  refine X_aload_n d_Head_begin_0 rfl rfl ?_
  refine X_iload_n d_Head_begin_1 rfl rfl ?_
  refine X_putI fp_Head_9 hh rfl d_Head_begin_2 ?_
  refine X_aload_n d_Head_begin_5 rfl rfl ?_
  refine X_iload_n d_Head_begin_6 rfl rfl ?_
  refine X_putI fp_Head_15 hh rfl d_Head_begin_7 ?_
  refine X_aload_n d_Head_begin_10 rfl rfl ?_
  refine X_iconst (v := 0) d_Head_begin_11 rfl ?_
  refine X_putI fp_Head_18 hh rfl d_Head_begin_12 ?_
  refine X_aload_n d_Head_begin_15 rfl rfl ?_
  refine X_iconst (v := 0) d_Head_begin_16 rfl ?_
  refine X_putI fp_Head_21 hh rfl d_Head_begin_17 ?_
  refine X_aload_n d_Head_begin_20 rfl rfl ?_
  refine X_iconst (v := 0) d_Head_begin_21 rfl ?_
  refine X_putI fp_Head_24 hh rfl d_Head_begin_22 ?_
  refine X_aload_n d_Head_begin_25 rfl rfl ?_
  generalize e_1 : xw (xw (xw (xw (xw I h 0 k) h 1 m) h 2 0) h 3 0) h 4 0 = I_2
  refine X_callVv (rest := []) (c_Head_standAtStart l G nn Y I_2 (by omega) h hh) lk_Head_standAtStart ml_Head_27 (xm_obj hh) rfl rfl (Nat.le_of_ble_eq_true rfl) (xRok (d' := d - 1) (by omega) (by decide)) ⟨Nat.le_refl _, Nat.le_refl _⟩ d_Head_begin_26 rfl ?_
  exact X_vret rfl rfl (xle_of (congrArg (xm G Y) (by simp only [← e_1, hBegin, xw_is, xup_s, xup_up]))) d_Head_begin_29
