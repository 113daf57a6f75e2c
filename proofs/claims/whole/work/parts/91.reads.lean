-- the class reads (29-31) in the memory of its own constructor
def xYcl : List xS := xYl.take 59
def xYc : xY := fun k => xYcl[k]?
theorem c_Reader_byteAt_z (l : Launch) (G : xG) {d : Nat} (nn : Nat) (hd : 1 ≤ d) (I : xI) (f : Nat → Int32) (n : Nat) (h2 : f 2 = nI n) (hn : n ≤ 160) (nx pl tk nu op fa : Int32) (p : Nat) (hp : p < 1000) : XM l G d y_Reader_byteAt b_Reader_byteAt 2 (some .int) 0 0 xK0 [.ref (xg G 11), .int (nI p)] nn (xm G xYc (xup I 11 (rQ f nx pl tk nu op fa))) (some (.int (rB (I 12) n p))) nn (xm G xYc (xup I 11 (rQ f nx pl tk nu op fa))) := by
  refine XM.of (by decide) (Nat.le_of_ble_eq_true rfl) (L := [(0, .ref (xg G 11)), (1, .int (nI p))]) rfl ?_
  refine X_iload_n d_Reader_byteAt_0 rfl rfl ?_
  refine X_if_lt (tgt := 30) d_Reader_byteAt_1 (by decide) (fun c_1 => absurd c_1 (nI_pos (by omega))) (fun _ => ?_)
  refine X_iload_n d_Reader_byteAt_4 rfl rfl ?_
  refine X_aload_n d_Reader_byteAt_5 rfl rfl ?_
  refine X_getI (v := nI n) fg_Reader_35 (show xYc 11 = some (sReader 12 13) from rfl) rfl ((congrFun (xup_s _ _ _) _).trans ((rQ_2 _ _ _ _ _ _ _).trans h2)) d_Reader_byteAt_6 ?_
  refine X_icmp_ge (tgt := 30) d_Reader_byteAt_9 (by decide) (fun c_2 => ?_) (fun c_2 => ?_)
  ·
    refine X_iconst (v := -1) d_Reader_byteAt_30 rfl ?_
    exact X_iret rfl (congrArg (fun q => some (Value.int q)) (by rw [rB, if_neg (nI_nls (by omega) (by omega) c_2)])) (xle_rf _) d_Reader_byteAt_31
  ·
    have hpn := nI_lss (by omega) (by omega) c_2
    refine X_iload_n d_Reader_byteAt_12 rfl rfl ?_
    refine X_aload_n d_Reader_byteAt_13 rfl rfl ?_
    refine X_getR (r := 12) fg_Reader_11 (show xYc 11 = some (sReader 12 13) from rfl) rfl d_Reader_byteAt_14 ?_
    refine X_alenI (v := 160) (show xYc 12 = some (sInts 160) from rfl) rfl d_Reader_byteAt_17 ?_
    refine X_icmp_ge (tgt := 30) d_Reader_byteAt_18 (by decide) (fun c_3 => absurd c_3 (show ¬ nI 160 ≤ nI p from nI_ge (show p < 160 by omega) (by decide))) (fun _ => ?_)
    refine X_aload_n d_Reader_byteAt_21 rfl rfl ?_
    refine X_getR (r := 12) fg_Reader_11 (show xYc 11 = some (sReader 12 13) from rfl) rfl d_Reader_byteAt_22 ?_
    refine X_iload_n d_Reader_byteAt_25 rfl rfl ?_
    refine X_aldI (v := I 12 p) (show xYc 12 = some (sInts 160) from rfl) (vp_in_nI (show p < 160 by omega) (by decide)) ((by rw [nI_cl (show p < 2 ^ 31 by omega)]; exact congrFun (xup_n _ _ (by decide)) _)) d_Reader_byteAt_26 ?_
    refine X_goto (tgt := 31) d_Reader_byteAt_27 (by decide) ?_
    exact X_iret rfl (congrArg (fun q => some (Value.int q)) (by rw [rB, if_pos hpn])) (xle_rf _) d_Reader_byteAt_31
theorem c_Reader_failed_z (l : Launch) (G : xG) {d : Nat} (nn : Nat) (hd : 1 ≤ d) (I : xI) (f : Nat → Int32) (nx pl tk nu op fa : Int32) : XM l G d y_Reader_failed b_Reader_failed 1 (some .boolean) 0 0 xK0 [.ref (xg G 11)] nn (xm G xYc (xup I 11 (rQ f nx pl tk nu op fa))) (some (.int (xb (decide (0 ≤ fa))))) nn (xm G xYc (xup I 11 (rQ f nx pl tk nu op fa))) := by
  refine XM.of (by decide) (Nat.le_of_ble_eq_true rfl) (L := [(0, .ref (xg G 11))]) rfl ?_
  refine X_aload_n d_Reader_failed_0 rfl rfl ?_
  refine X_getI (v := fa) fg_Reader_50 (show xYc 11 = some (sReader 12 13) from rfl) rfl ((congrFun (xup_s _ _ _) _).trans (rQ_8 _ _ _ _ _ _ _)) d_Reader_failed_1 ?_
  refine X_if_lt (tgt := 11) d_Reader_failed_4 (by decide) (fun c_1 => ?_) (fun c_1 => ?_)
  ·
    refine X_iconst (v := 0) d_Reader_failed_11 rfl ?_
    exact X_zret rfl rfl (congrArg (fun q => some (Value.int q)) (by simp [xb, c_1, Int32.not_le.mpr c_1])) (xle_rf _) d_Reader_failed_12
  ·
    refine X_iconst (v := 1) d_Reader_failed_7 rfl ?_
    refine X_goto (tgt := 12) d_Reader_failed_8 (by decide) ?_
    exact X_zret rfl rfl (congrArg (fun q => some (Value.int q)) (by simp [xb, c_1, Int32.not_lt.mp c_1])) (xle_rf _) d_Reader_failed_12
theorem c_Reader_fail_z (l : Launch) (G : xG) {d : Nat} (nn : Nat) (hd : 2 ≤ d) (I : xI) (f : Nat → Int32) (nx pl tk nu op fa : Int32) : XM l G d y_Reader_fail b_Reader_fail 1 (none) 0 0 xK0 [.ref (xg G 11)] nn (xm G xYc (xup I 11 (rQ f nx pl tk nu op fa))) (none) nn (xm G xYc (xup I 11 (rQ f nx pl tk nu op (rFail fa pl)))) := by
  refine XM.of (by decide) (Nat.le_of_ble_eq_true rfl) (L := [(0, .ref (xg G 11))]) rfl ?_
  refine X_aload_n d_Reader_fail_0 rfl rfl ?_
  refine X_aload_n d_Reader_fail_1 rfl rfl ?_
  refine X_callV (v := .int (xb (decide (0 ≤ fa)))) (rest := [.ref (xg G 11)]) (c_Reader_failed_z l G nn (by omega) I f nx pl tk nu op fa ) lk_Reader_failed ml_Reader_67 (xm_obj (show xYc 11 = some (sReader 12 13) from rfl)) rfl rfl (Nat.le_of_ble_eq_true rfl) (xRok (d' := d - 1) (by omega) (by decide)) ⟨Nat.le_refl _, Nat.le_refl _⟩ d_Reader_fail_2 rfl ?_
  refine X_ifb_eq (tgt := 15) d_Reader_fail_5 (by decide) (fun c_1 => ?_) (fun c_1 => ?_)
  ·
    refine X_aload_n d_Reader_fail_15 rfl rfl ?_
    refine X_getI (v := pl) fg_Reader_71 (show xYc 11 = some (sReader 12 13) from rfl) rfl ((congrFun (xup_s _ _ _) _).trans (rQ_4 _ _ _ _ _ _ _)) d_Reader_fail_16 ?_
    refine X_putI fp_Reader_50 (show xYc 11 = some (sReader 12 13) from rfl) rfl d_Reader_fail_19 ?_
    rw [xw_rec]
    rw [rQs_8]
    exact X_vret rfl rfl (xle_of (congrArg (xm G xYc) (by simp only [rFail]; first | rw [if_pos (of_decide_eq_true c_1)] | rw [if_neg (of_decide_eq_false c_1)]))) d_Reader_fail_22
  ·
    refine X_aload_n d_Reader_fail_8 rfl rfl ?_
    refine X_getI (v := fa) fg_Reader_50 (show xYc 11 = some (sReader 12 13) from rfl) rfl ((congrFun (xup_s _ _ _) _).trans (rQ_8 _ _ _ _ _ _ _)) d_Reader_fail_9 ?_
    refine X_goto (tgt := 19) d_Reader_fail_12 (by decide) ?_
    refine X_putI fp_Reader_50 (show xYc 11 = some (sReader 12 13) from rfl) rfl d_Reader_fail_19 ?_
    rw [xw_rec]
    rw [rQs_8]
    exact X_vret rfl rfl (xle_of (congrArg (xm G xYc) (by simp only [rFail]; first | rw [if_pos (of_decide_eq_true c_1)] | rw [if_neg (of_decide_eq_false c_1)]))) d_Reader_fail_22
theorem c_Reader_at_z (l : Launch) (G : xG) {d : Nat} (nn : Nat) (hd : 2 ≤ d) (I : xI) (f : Nat → Int32) (nx pl tk nu op fa : Int32) (w : Int32) : XM l G d y_Reader_at b_Reader_at 2 (some .boolean) 0 0 xK0 [.ref (xg G 11), .int w] nn (xm G xYc (xup I 11 (rQ f nx pl tk nu op fa))) (some (.int (xb (!decide (0 ≤ fa) && decide (tk = w))))) nn (xm G xYc (xup I 11 (rQ f nx pl tk nu op fa))) := by
  refine XM.of (by decide) (Nat.le_of_ble_eq_true rfl) (L := [(0, .ref (xg G 11)), (1, .int w)]) rfl ?_
  refine X_aload_n d_Reader_at_0 rfl rfl ?_
  refine X_callV (v := .int (xb (decide (0 ≤ fa)))) (rest := []) (c_Reader_failed_z l G nn (by omega) I f nx pl tk nu op fa ) lk_Reader_failed ml_Reader_67 (xm_obj (show xYc 11 = some (sReader 12 13) from rfl)) rfl rfl (Nat.le_of_ble_eq_true rfl) (xRok (d' := d - 1) (by omega) (by decide)) ⟨Nat.le_refl _, Nat.le_refl _⟩ d_Reader_at_1 rfl ?_
  refine X_ifb_ne (tgt := 19) d_Reader_at_4 (by decide) (fun c_1 => ?_) (fun c_1 => ?_)
  ·
    refine X_iconst (v := 0) d_Reader_at_19 rfl ?_
    exact X_zret rfl rfl (congrArg (fun q => some (Value.int q)) (by simp_all [xb, c_1])) (xle_rf _) d_Reader_at_20
  ·
    refine X_aload_n d_Reader_at_7 rfl rfl ?_
    refine X_getI (v := tk) fg_Reader_74 (show xYc 11 = some (sReader 12 13) from rfl) rfl ((congrFun (xup_s _ _ _) _).trans (rQ_5 _ _ _ _ _ _ _)) d_Reader_at_8 ?_
    refine X_iload_n d_Reader_at_11 rfl rfl ?_
    refine X_icmp_ne (tgt := 19) d_Reader_at_12 (by decide) (fun c_2 => ?_) (fun c_2 => ?_)
    ·
      refine X_iconst (v := 0) d_Reader_at_19 rfl ?_
      exact X_zret rfl rfl (congrArg (fun q => some (Value.int q)) (by simp_all [xb, c_1, c_2])) (xle_rf _) d_Reader_at_20
    ·
      refine X_iconst (v := 1) d_Reader_at_15 rfl ?_
      refine X_goto (tgt := 20) d_Reader_at_16 (by decide) ?_
      exact X_zret rfl rfl (congrArg (fun q => some (Value.int q)) (by simp_all [xb, c_1, c_2])) (xle_rf _) d_Reader_at_20
def Q_Reader_takeNumber_z (l : Launch) (G : xG) (d nn : Nat) (I : xI) (f : Nat → Int32) (n q e : Nat) (tk op fa : Int32) (i : Nat) : Prop := XW l G (xR d 0 0) y_Reader_takeNumber b_Reader_takeNumber 2 none xK0 (xZ G nn (xm G xYc (xup I 11 (rQ f (nI e) (nI q) (if 4 < nI e - nI q then -1 else 1) (nNum (I 12) n q (e - q)) op fa))) none 0 0) nn (xm G xYc (xup I 11 (rQ f (nI (q + i)) (nI q) tk (nNum (I 12) n q i) op fa))) 0 0 7 [(0, .ref (xg G 11)), (1, .int (nI i))] []
theorem w_Reader_takeNumber_z (l : Launch) (G : xG) {d : Nat} (nn : Nat) (hd : 2 ≤ d) (I : xI) (f : Nat → Int32) (n : Nat) (h2 : f 2 = nI n) (hn : n ≤ 160) (q e : Nat) (hq : q ≤ 160) (tk op fa : Int32) (i : Nat) (hi : i ≤ 160) (ih : i < 160 → rRun bDigit (I 12) n (160 - (i + 1)) (q + i + 1) = e → Q_Reader_takeNumber_z l G d nn I f n q e tk op fa (i + 1)) (hr : rRun bDigit (I 12) n (160 - i) (q + i) = e) : Q_Reader_takeNumber_z l G d nn I f n q e tk op fa i := by
  unfold Q_Reader_takeNumber_z
  refine X_iload_n d_Reader_takeNumber_7 rfl rfl ?_
  refine X_sipush (v := 160) d_Reader_takeNumber_8 rfl ?_
  refine X_icmp_ge (tgt := 79) d_Reader_takeNumber_11 (by decide) (fun c_1 => ?_) (fun c_1 => ?_)
  ·
    have hz : i = 160 := nI_done hi (by decide) c_1
    subst hz
    have he : q + 160 = e := rRun_z hr
    subst he
    refine X_aload_n d_Reader_takeNumber_79 rfl rfl ?_
    refine X_aload_n d_Reader_takeNumber_80 rfl rfl ?_
    refine X_getI (v := nI (q + 160)) fg_Reader_44 (show xYc 11 = some (sReader 12 13) from rfl) rfl ((congrFun (xup_s _ _ _) _).trans (rQ_3 _ _ _ _ _ _ _)) d_Reader_takeNumber_81 ?_
    refine X_aload_n d_Reader_takeNumber_84 rfl rfl ?_
    refine X_getI (v := nI q) fg_Reader_71 (show xYc 11 = some (sReader 12 13) from rfl) rfl ((congrFun (xup_s _ _ _) _).trans (rQ_4 _ _ _ _ _ _ _)) d_Reader_takeNumber_85 ?_
    refine X_isub d_Reader_takeNumber_88 ?_
    refine X_iconst (v := 4) d_Reader_takeNumber_89 rfl ?_
    refine X_icmp_le (tgt := 97) d_Reader_takeNumber_90 (by decide) (fun c_2 => ?_) (fun c_2 => ?_)
    ·
      refine X_iconst (v := 1) d_Reader_takeNumber_97 rfl ?_
      refine X_putI fp_Reader_74 (show xYc 11 = some (sReader 12 13) from rfl) rfl d_Reader_takeNumber_98 ?_
      rw [xw_rec]
      rw [rQs_5]
      exact X_vret rfl rfl (xle_of (congrArg (xm G xYc) (by rw [show q + 160 - q = 160 by omega]; simp [c_1, Int32.not_lt.mpr c_1, c_2, Int32.not_lt.mpr c_2]))) d_Reader_takeNumber_101
    ·
      refine X_iconst (v := -1) d_Reader_takeNumber_93 rfl ?_
      refine X_goto (tgt := 98) d_Reader_takeNumber_94 (by decide) ?_
      refine X_putI fp_Reader_74 (show xYc 11 = some (sReader 12 13) from rfl) rfl d_Reader_takeNumber_98 ?_
      rw [xw_rec]
      rw [rQs_5]
      exact X_vret rfl rfl (xle_of (congrArg (xm G xYc) (by rw [show q + 160 - q = 160 by omega]; simp [c_1, Int32.not_lt.mpr c_1, c_2, Int32.not_le.mp c_2]))) d_Reader_takeNumber_101
  ·
    refine X_aload_n d_Reader_takeNumber_14 rfl rfl ?_
    refine X_aload_n d_Reader_takeNumber_15 rfl rfl ?_
    refine X_getI (v := nI (q + i)) fg_Reader_44 (show xYc 11 = some (sReader 12 13) from rfl) rfl ((congrFun (xup_s _ _ _) _).trans (rQ_3 _ _ _ _ _ _ _)) d_Reader_takeNumber_16 ?_
    refine X_callV (v := .int (rB (I 12) n (q + i))) (rest := []) (c_Reader_byteAt_z l G nn (by omega) I f n h2 hn (nI (q + i)) (nI q) tk (nNum (I 12) n q i) op fa (q + i) (by omega)) lk_Reader_byteAt ml_Reader_108 (xm_obj (show xYc 11 = some (sReader 12 13) from rfl)) rfl rfl (Nat.le_of_ble_eq_true rfl) (xRok (d' := d - 1) (by omega) (by decide)) ⟨Nat.le_refl _, Nat.le_refl _⟩ d_Reader_takeNumber_19 rfl ?_
    refine X_callS (v := .int (xb (bDigit (rB (I 12) n (q + i))))) (rest := []) (c_Reader_isDigit l G nn _ (by omega) (rB (I 12) n (q + i))) lk_Reader_isDigit ml_Reader_121 rfl (Nat.le_of_ble_eq_true rfl) (xRok (d' := d - 1) (by omega) (by decide)) ⟨Nat.le_refl _, Nat.le_refl _⟩ d_Reader_takeNumber_22 rfl ?_
    refine X_ifb_eq (tgt := 79) d_Reader_takeNumber_25 (by decide) (fun c_3 => ?_) (fun c_3 => ?_)
    ·
      have hlt : i < 160 := nI_more hi (by decide) c_1
      have he : q + i = e := rRun_e hlt hr (by simp [c_3])
      subst he
      refine X_aload_n d_Reader_takeNumber_79 rfl rfl ?_
      refine X_aload_n d_Reader_takeNumber_80 rfl rfl ?_
      refine X_getI (v := nI (q + i)) fg_Reader_44 (show xYc 11 = some (sReader 12 13) from rfl) rfl ((congrFun (xup_s _ _ _) _).trans (rQ_3 _ _ _ _ _ _ _)) d_Reader_takeNumber_81 ?_
      refine X_aload_n d_Reader_takeNumber_84 rfl rfl ?_
      refine X_getI (v := nI q) fg_Reader_71 (show xYc 11 = some (sReader 12 13) from rfl) rfl ((congrFun (xup_s _ _ _) _).trans (rQ_4 _ _ _ _ _ _ _)) d_Reader_takeNumber_85 ?_
      refine X_isub d_Reader_takeNumber_88 ?_
      refine X_iconst (v := 4) d_Reader_takeNumber_89 rfl ?_
      refine X_icmp_le (tgt := 97) d_Reader_takeNumber_90 (by decide) (fun c_4 => ?_) (fun c_4 => ?_)
      ·
        refine X_iconst (v := 1) d_Reader_takeNumber_97 rfl ?_
        refine X_putI fp_Reader_74 (show xYc 11 = some (sReader 12 13) from rfl) rfl d_Reader_takeNumber_98 ?_
        rw [xw_rec]
        rw [rQs_5]
        exact X_vret rfl rfl (xle_of (congrArg (xm G xYc) (by rw [show q + i - q = i by omega]; simp [c_1, Int32.not_le.mp c_1, c_3, c_4, Int32.not_lt.mpr c_4]))) d_Reader_takeNumber_101
      ·
        refine X_iconst (v := -1) d_Reader_takeNumber_93 rfl ?_
        refine X_goto (tgt := 98) d_Reader_takeNumber_94 (by decide) ?_
        refine X_putI fp_Reader_74 (show xYc 11 = some (sReader 12 13) from rfl) rfl d_Reader_takeNumber_98 ?_
        rw [xw_rec]
        rw [rQs_5]
        exact X_vret rfl rfl (xle_of (congrArg (xm G xYc) (by rw [show q + i - q = i by omega]; simp [c_1, Int32.not_le.mp c_1, c_3, c_4, Int32.not_le.mp c_4]))) d_Reader_takeNumber_101
    ·
      refine X_aload_n d_Reader_takeNumber_28 rfl rfl ?_
      refine X_iload_n d_Reader_takeNumber_29 rfl rfl ?_
      refine X_iconst (v := 4) d_Reader_takeNumber_30 rfl ?_
      refine X_icmp_ge (tgt := 56) d_Reader_takeNumber_31 (by decide) (fun c_5 => ?_) (fun c_5 => ?_)
      ·
        refine X_aload_n d_Reader_takeNumber_56 rfl rfl ?_
        refine X_getI (v := nNum (I 12) n q i) fg_Reader_105 (show xYc 11 = some (sReader 12 13) from rfl) rfl ((congrFun (xup_s _ _ _) _).trans (rQ_6 _ _ _ _ _ _ _)) d_Reader_takeNumber_57 ?_
        refine X_putI fp_Reader_105 (show xYc 11 = some (sReader 12 13) from rfl) rfl d_Reader_takeNumber_60 ?_
        rw [xw_rec]
        rw [rQs_6]
        refine X_aload_n d_Reader_takeNumber_63 rfl rfl ?_
        refine X_dup d_Reader_takeNumber_64 rfl ?_
        refine X_getI (v := nI (q + i)) fg_Reader_44 (show xYc 11 = some (sReader 12 13) from rfl) rfl ((congrFun (xup_s _ _ _) _).trans (rQ_3 _ _ _ _ _ _ _)) d_Reader_takeNumber_65 ?_
        refine X_iconst (v := 1) d_Reader_takeNumber_68 rfl ?_
        refine X_iadd d_Reader_takeNumber_69 ?_
        refine X_putI fp_Reader_44 (show xYc 11 = some (sReader 12 13) from rfl) rfl d_Reader_takeNumber_70 ?_
        rw [xw_rec]
        rw [rQs_3]
        refine X_iinc d_Reader_takeNumber_73 rfl (v := (nI i) + 1) rfl (by decide) [1, 0] (L' := [(0, .ref (xg G 11)), (1, .int ((nI i) + 1))]) rfl ?_
        refine X_goto (tgt := 7) d_Reader_takeNumber_76 (by decide) ?_
        have hlt : i < 160 := nI_more hi (by decide) c_1
        have key := ih hlt (rRun_s hlt hr c_3)
        unfold Q_Reader_takeNumber_z at key
        rw [nNum, if_neg (nI_nls (n := 4) (by omega) (by decide) c_5), ← Nat.add_assoc] at key
        rw [nI_1, nI_1]
        exact key
      ·
        refine X_bipush (v := 10) d_Reader_takeNumber_34 rfl ?_
        refine X_aload_n d_Reader_takeNumber_36 rfl rfl ?_
        refine X_getI (v := nNum (I 12) n q i) fg_Reader_105 (show xYc 11 = some (sReader 12 13) from rfl) rfl ((congrFun (xup_s _ _ _) _).trans (rQ_6 _ _ _ _ _ _ _)) d_Reader_takeNumber_37 ?_
        refine X_imul d_Reader_takeNumber_40 ?_
        refine X_aload_n d_Reader_takeNumber_41 rfl rfl ?_
        refine X_aload_n d_Reader_takeNumber_42 rfl rfl ?_
        refine X_getI (v := nI (q + i)) fg_Reader_44 (show xYc 11 = some (sReader 12 13) from rfl) rfl ((congrFun (xup_s _ _ _) _).trans (rQ_3 _ _ _ _ _ _ _)) d_Reader_takeNumber_43 ?_
        refine X_callV (v := .int (rB (I 12) n (q + i))) (rest := [.int (10 * (nNum (I 12) n q i)), .ref (xg G 11)]) (c_Reader_byteAt_z l G nn (by omega) I f n h2 hn (nI (q + i)) (nI q) tk (nNum (I 12) n q i) op fa (q + i) (by omega)) lk_Reader_byteAt ml_Reader_108 (xm_obj (show xYc 11 = some (sReader 12 13) from rfl)) rfl rfl (Nat.le_of_ble_eq_true rfl) (xRok (d' := d - 1) (by omega) (by decide)) ⟨Nat.le_refl _, Nat.le_refl _⟩ d_Reader_takeNumber_46 rfl ?_
        refine X_iadd d_Reader_takeNumber_49 ?_
        refine X_bipush (v := 48) d_Reader_takeNumber_50 rfl ?_
        refine X_isub d_Reader_takeNumber_52 ?_
        refine X_goto (tgt := 60) d_Reader_takeNumber_53 (by decide) ?_
        refine X_putI fp_Reader_105 (show xYc 11 = some (sReader 12 13) from rfl) rfl d_Reader_takeNumber_60 ?_
        rw [xw_rec]
        rw [rQs_6]
        refine X_aload_n d_Reader_takeNumber_63 rfl rfl ?_
        refine X_dup d_Reader_takeNumber_64 rfl ?_
        refine X_getI (v := nI (q + i)) fg_Reader_44 (show xYc 11 = some (sReader 12 13) from rfl) rfl ((congrFun (xup_s _ _ _) _).trans (rQ_3 _ _ _ _ _ _ _)) d_Reader_takeNumber_65 ?_
        refine X_iconst (v := 1) d_Reader_takeNumber_68 rfl ?_
        refine X_iadd d_Reader_takeNumber_69 ?_
        refine X_putI fp_Reader_44 (show xYc 11 = some (sReader 12 13) from rfl) rfl d_Reader_takeNumber_70 ?_
        rw [xw_rec]
        rw [rQs_3]
        refine X_iinc d_Reader_takeNumber_73 rfl (v := (nI i) + 1) rfl (by decide) [1, 0] (L' := [(0, .ref (xg G 11)), (1, .int ((nI i) + 1))]) rfl ?_
        refine X_goto (tgt := 7) d_Reader_takeNumber_76 (by decide) ?_
        have hlt : i < 160 := nI_more hi (by decide) c_1
        have key := ih hlt (rRun_s hlt hr c_3)
        unfold Q_Reader_takeNumber_z at key
        rw [nNum, if_pos (nI_lss (n := 4) (by omega) (by decide) c_5), ← Nat.add_assoc] at key
        rw [nI_1, nI_1]
        exact key
theorem c_Reader_takeNumber_z (l : Launch) (G : xG) {d : Nat} (nn : Nat) (hd : 2 ≤ d) (I : xI) (f : Nat → Int32) (n : Nat) (h2 : f 2 = nI n) (hn : n ≤ 160) (q : Nat) (hq : q ≤ 160) (tk nu op fa : Int32) : XM l G d y_Reader_takeNumber b_Reader_takeNumber 2 (none) 0 0 xK0 [.ref (xg G 11)] nn (xm G xYc (xup I 11 (rQ f (nI q) (nI q) tk nu op fa))) (none) nn (xm G xYc (xup I 11 (rQ f (nI (rRun bDigit (I 12) n 160 q)) (nI q) (if 4 < nI (rRun bDigit (I 12) n 160 q) - nI q then -1 else 1) (nNum (I 12) n q (rRun bDigit (I 12) n 160 q - q)) op fa))) := by
  refine XM.of (by decide) (Nat.le_of_ble_eq_true rfl) (L := [(0, .ref (xg G 11))]) rfl ?_
  refine X_aload_n d_Reader_takeNumber_0 rfl rfl ?_
  refine X_iconst (v := 0) d_Reader_takeNumber_1 rfl ?_
  refine X_putI fp_Reader_105 (show xYc 11 = some (sReader 12 13) from rfl) rfl d_Reader_takeNumber_2 ?_
  rw [xw_rec]
  rw [rQs_6]
  refine X_iconst (v := 0) d_Reader_takeNumber_5 rfl ?_
  refine X_istore_n d_Reader_takeNumber_6 rfl (by decide) [1, 0] (L' := [(0, .ref (xg G 11)), (1, .int 0)]) rfl ?_
  have hx := xloop (Q := fun i => rRun bDigit (I 12) n (160 - i) (q + i) = rRun bDigit (I 12) n 160 q → Q_Reader_takeNumber_z l G d nn I f n q (rRun bDigit (I 12) n 160 q) tk op fa i) (T := 160) (fun i hi ih => w_Reader_takeNumber_z l G nn (by omega) I f n h2 hn q _ hq tk op fa i hi ih) 0 (Nat.zero_le _) rfl
  unfold Q_Reader_takeNumber_z at hx
  exact hx
def R_Reader_takeWord_z (l : Launch) (G : xG) (d nn : Nat) (I : xI) (f : Nat → Int32) (nx pl nu op fa : Int32) (v : Int64) (k : Nat) : Prop := XW l G (xR d 0 0) y_Reader_takeWord b_Reader_takeWord 4 none xK0 (xZ G nn (xm G xYc (xup I 11 (rQ f nx pl (wTok v 12) nu op fa))) none 0 0) nn (xm G xYc (xup I 11 (rQ f nx pl (wTok v k) nu op fa))) 0 0 82 [(0, .ref (xg G 11)), (1, .long v), (3, .int (nI k))] []
theorem v_Reader_takeWord_z (l : Launch) (G : xG) {d : Nat} (nn : Nat) (hd : 2 ≤ d) (I : xI) (f : Nat → Int32) (nx pl nu op fa : Int32) (v : Int64) (k : Nat) (hk : k ≤ 12) (ih : k < 12 → R_Reader_takeWord_z l G d nn I f nx pl nu op fa v (k + 1)) : R_Reader_takeWord_z l G d nn I f nx pl nu op fa v k := by
  unfold R_Reader_takeWord_z
  refine X_iload_n d_Reader_takeWord_82 rfl rfl ?_
  refine X_aload_n d_Reader_takeWord_83 rfl rfl ?_
  refine X_getR (r := 13) fg_Reader_15 (show xYc 11 = some (sReader 12 13) from rfl) rfl d_Reader_takeWord_84 ?_
  refine X_alenL (v := 12) (show xYc 13 = some sWords from rfl) rfl d_Reader_takeWord_87 ?_
  refine X_icmp_ge (tgt := 124) d_Reader_takeWord_88 (by decide) (fun c_1 => ?_) (fun c_1 => ?_)
  ·
    have hz : k = 12 := nI_done hk (by decide) c_1
    subst hz
    exact X_vret rfl rfl (xle_rf _) d_Reader_takeWord_124
  ·
    have hlt : k < 12 := nI_more hk (by decide) c_1
    refine X_aload_n d_Reader_takeWord_91 rfl rfl ?_
    refine X_aload_n d_Reader_takeWord_92 rfl rfl ?_
    refine X_getR (r := 13) fg_Reader_15 (show xYc 11 = some (sReader 12 13) from rfl) rfl d_Reader_takeWord_93 ?_
    refine X_iload_n d_Reader_takeWord_96 rfl rfl ?_
    refine X_aldL (v := wL k) (show xYc 13 = some sWords from rfl) (vp_in_nI (show k < 12 by omega) (by decide)) (by rw [nI_cl (show k < 2 ^ 31 by omega)]; rfl) d_Reader_takeWord_97 ?_
    refine X_lload_n d_Reader_takeWord_98 rfl rfl ?_
    refine X_lcmp d_Reader_takeWord_99 ?_
    refine X_if_ne (tgt := 111) d_Reader_takeWord_100 (by decide) (fun c_2 => ?_) (fun c_2 => ?_)
    ·
      refine X_aload_n d_Reader_takeWord_111 rfl rfl ?_
      refine X_getI (v := wTok v k) fg_Reader_74 (show xYc 11 = some (sReader 12 13) from rfl) rfl ((congrFun (xup_s _ _ _) _).trans (rQ_5 _ _ _ _ _ _ _)) d_Reader_takeWord_112 ?_
      refine X_putI fp_Reader_74 (show xYc 11 = some (sReader 12 13) from rfl) rfl d_Reader_takeWord_115 ?_
      rw [xw_rec]
      rw [rQs_5]
      refine X_iinc d_Reader_takeWord_118 rfl (v := (nI k) + 1) rfl (by decide) [1, 2, 0] (L' := [(0, .ref (xg G 11)), (1, .long v), (3, .int ((nI k) + 1))]) rfl ?_
      refine X_goto (tgt := 82) d_Reader_takeWord_121 (by decide) ?_
      have hlt : k < 12 := nI_more hk (by decide) c_1
      have key := ih hlt
      unfold R_Reader_takeWord_z at key
      have e : wTok v (k + 1) = wTok v k := by rw [wTok, if_neg (fun z => c_2 ((lg_cmp_eq _ _).mpr z))]
      rw [e] at key
      rw [nI_1]
      exact key
    ·
      refine X_sipush (v := 128) d_Reader_takeWord_103 rfl ?_
      refine X_iload_n d_Reader_takeWord_106 rfl rfl ?_
      refine X_iadd d_Reader_takeWord_107 ?_
      refine X_goto (tgt := 115) d_Reader_takeWord_108 (by decide) ?_
      refine X_putI fp_Reader_74 (show xYc 11 = some (sReader 12 13) from rfl) rfl d_Reader_takeWord_115 ?_
      rw [xw_rec]
      rw [rQs_5]
      refine X_iinc d_Reader_takeWord_118 rfl (v := (nI k) + 1) rfl (by decide) [1, 2, 0] (L' := [(0, .ref (xg G 11)), (1, .long v), (3, .int ((nI k) + 1))]) rfl ?_
      refine X_goto (tgt := 82) d_Reader_takeWord_121 (by decide) ?_
      have hlt : k < 12 := nI_more hk (by decide) c_1
      have key := ih hlt
      unfold R_Reader_takeWord_z at key
      have e : wTok v (k + 1) = 128 + nI k := by rw [wTok, if_pos ((lg_cmp_eq _ _).mp c_2)]
      rw [e] at key
      rw [nI_1]
      exact key
def Q_Reader_takeWord_z (l : Launch) (G : xG) (d nn : Nat) (I : xI) (f : Nat → Int32) (n q e : Nat) (pl nu op fa : Int32) (tk : Int32) (i : Nat) : Prop := XW l G (xR d 0 0) y_Reader_takeWord b_Reader_takeWord 4 none xK0 (xZ G nn (xm G xYc (xup I 11 (rQ f (nI e) pl (wTok (wNum (I 12) n q (e - q)) 12) nu op fa))) none 0 0) nn (xm G xYc (xup I 11 (rQ f (nI (q + i)) pl tk nu op fa))) 0 0 4 [(0, .ref (xg G 11)), (1, .long (wNum (I 12) n q i)), (3, .int (nI i))] []
theorem w_Reader_takeWord_z (l : Launch) (G : xG) {d : Nat} (nn : Nat) (hd : 2 ≤ d) (I : xI) (f : Nat → Int32) (n : Nat) (h2 : f 2 = nI n) (hn : n ≤ 160) (q e : Nat) (hq : q ≤ 160) (pl nu op fa tk : Int32) (i : Nat) (hi : i ≤ 160) (ih : i < 160 → rRun bLetter (I 12) n (160 - (i + 1)) (q + i + 1) = e → Q_Reader_takeWord_z l G d nn I f n q e pl nu op fa tk (i + 1)) (hr : rRun bLetter (I 12) n (160 - i) (q + i) = e) : Q_Reader_takeWord_z l G d nn I f n q e pl nu op fa tk i := by
  unfold Q_Reader_takeWord_z
  refine X_iload_n d_Reader_takeWord_4 rfl rfl ?_
  refine X_sipush (v := 160) d_Reader_takeWord_5 rfl ?_
  refine X_icmp_ge (tgt := 75) d_Reader_takeWord_8 (by decide) (fun c_1 => ?_) (fun c_1 => ?_)
  ·
    refine X_aload_n d_Reader_takeWord_75 rfl rfl ?_
    refine X_iconst (v := -1) d_Reader_takeWord_76 rfl ?_
    refine X_putI fp_Reader_74 (show xYc 11 = some (sReader 12 13) from rfl) rfl d_Reader_takeWord_77 ?_
    rw [xw_rec]
    rw [rQs_5]
    refine X_iconst (v := 0) d_Reader_takeWord_80 rfl ?_
    refine X_istore_n d_Reader_takeWord_81 rfl (by decide) [1, 2, 0] (L' := [(0, .ref (xg G 11)), (1, .long (wNum (I 12) n q i)), (3, .int 0)]) rfl ?_
    have hz : i = 160 := nI_done hi (by decide) c_1
    subst hz
    have he : q + 160 = e := rRun_z hr
    subst he
    have hx := xloop (T := 12) (fun k hk ih => v_Reader_takeWord_z (d := d) l G nn hd I f (nI (q + 160)) pl nu op fa (wNum (I 12) n q 160) k hk ih) 0 (Nat.zero_le _)
    unfold R_Reader_takeWord_z at hx
    rw [show q + 160 - q = 160 by omega]
    exact hx
  ·
    refine X_aload_n d_Reader_takeWord_11 rfl rfl ?_
    refine X_aload_n d_Reader_takeWord_12 rfl rfl ?_
    refine X_getI (v := nI (q + i)) fg_Reader_44 (show xYc 11 = some (sReader 12 13) from rfl) rfl ((congrFun (xup_s _ _ _) _).trans (rQ_3 _ _ _ _ _ _ _)) d_Reader_takeWord_13 ?_
    refine X_callV (v := .int (rB (I 12) n (q + i))) (rest := []) (c_Reader_byteAt_z l G nn (by omega) I f n h2 hn (nI (q + i)) pl tk nu op fa (q + i) (by omega)) lk_Reader_byteAt ml_Reader_108 (xm_obj (show xYc 11 = some (sReader 12 13) from rfl)) rfl rfl (Nat.le_of_ble_eq_true rfl) (xRok (d' := d - 1) (by omega) (by decide)) ⟨Nat.le_refl _, Nat.le_refl _⟩ d_Reader_takeWord_16 rfl ?_
    refine X_callS (v := .int (xb (bLetter (rB (I 12) n (q + i))))) (rest := []) (c_Reader_isLetter l G nn _ (by omega) (rB (I 12) n (q + i))) lk_Reader_isLetter ml_Reader_115 rfl (Nat.le_of_ble_eq_true rfl) (xRok (d' := d - 1) (by omega) (by decide)) ⟨Nat.le_refl _, Nat.le_refl _⟩ d_Reader_takeWord_19 rfl ?_
    refine X_ifb_eq (tgt := 75) d_Reader_takeWord_22 (by decide) (fun c_2 => ?_) (fun c_2 => ?_)
    ·
      refine X_aload_n d_Reader_takeWord_75 rfl rfl ?_
      refine X_iconst (v := -1) d_Reader_takeWord_76 rfl ?_
      refine X_putI fp_Reader_74 (show xYc 11 = some (sReader 12 13) from rfl) rfl d_Reader_takeWord_77 ?_
      rw [xw_rec]
      rw [rQs_5]
      refine X_iconst (v := 0) d_Reader_takeWord_80 rfl ?_
      refine X_istore_n d_Reader_takeWord_81 rfl (by decide) [1, 2, 0] (L' := [(0, .ref (xg G 11)), (1, .long (wNum (I 12) n q i)), (3, .int 0)]) rfl ?_
      have hlt : i < 160 := nI_more hi (by decide) c_1
      have he : q + i = e := rRun_e hlt hr (by simp [c_2])
      subst he
      have hx := xloop (T := 12) (fun k hk ih => v_Reader_takeWord_z (d := d) l G nn hd I f (nI (q + i)) pl nu op fa (wNum (I 12) n q i) k hk ih) 0 (Nat.zero_le _)
      unfold R_Reader_takeWord_z at hx
      rw [show q + i - q = i by omega]
      exact hx
    ·
      refine X_iload_n d_Reader_takeWord_25 rfl rfl ?_
      refine X_bipush (v := 6) d_Reader_takeWord_26 rfl ?_
      refine X_icmp_ge (tgt := 55) d_Reader_takeWord_28 (by decide) (fun c_3 => ?_) (fun c_3 => ?_)
      ·
        refine X_ldc2 cs_Reader_130 d_Reader_takeWord_55 ?_
        refine X_lstore_n d_Reader_takeWord_58 rfl (by decide) [1, 0, 2] (L' := [(0, .ref (xg G 11)), (1, .long (-4611686018427387904)), (3, .int (nI i))]) rfl ?_
        refine X_aload_n d_Reader_takeWord_59 rfl rfl ?_
        refine X_dup d_Reader_takeWord_60 rfl ?_
        refine X_getI (v := nI (q + i)) fg_Reader_44 (show xYc 11 = some (sReader 12 13) from rfl) rfl ((congrFun (xup_s _ _ _) _).trans (rQ_3 _ _ _ _ _ _ _)) d_Reader_takeWord_61 ?_
        refine X_iconst (v := 1) d_Reader_takeWord_64 rfl ?_
        refine X_iadd d_Reader_takeWord_65 ?_
        refine X_putI fp_Reader_44 (show xYc 11 = some (sReader 12 13) from rfl) rfl d_Reader_takeWord_66 ?_
        rw [xw_rec]
        rw [rQs_3]
        refine X_iinc d_Reader_takeWord_69 rfl (v := (nI i) + 1) rfl (by decide) [1, 2, 0] (L' := [(0, .ref (xg G 11)), (1, .long (-4611686018427387904)), (3, .int ((nI i) + 1))]) rfl ?_
        refine X_goto (tgt := 4) d_Reader_takeWord_72 (by decide) ?_
        have hlt : i < 160 := nI_more hi (by decide) c_1
        have key := ih hlt (rRun_s hlt hr c_2)
        unfold Q_Reader_takeWord_z at key
        rw [wNum, if_neg (nI_nls (n := 6) (by omega) (by decide) c_3), ← Nat.add_assoc] at key
        rw [nI_1, nI_1]
        exact key
      ·
        refine X_lload_n d_Reader_takeWord_31 rfl rfl ?_
        refine X_ldc2 cs_Reader_31 d_Reader_takeWord_32 ?_
        refine X_lmul d_Reader_takeWord_35 ?_
        refine X_aload_n d_Reader_takeWord_36 rfl rfl ?_
        refine X_aload_n d_Reader_takeWord_37 rfl rfl ?_
        refine X_getI (v := nI (q + i)) fg_Reader_44 (show xYc 11 = some (sReader 12 13) from rfl) rfl ((congrFun (xup_s _ _ _) _).trans (rQ_3 _ _ _ _ _ _ _)) d_Reader_takeWord_38 ?_
        refine X_callV (v := .int (rB (I 12) n (q + i))) (rest := [.long ((wNum (I 12) n q i) * 32)]) (c_Reader_byteAt_z l G nn (by omega) I f n h2 hn (nI (q + i)) pl tk nu op fa (q + i) (by omega)) lk_Reader_byteAt ml_Reader_108 (xm_obj (show xYc 11 = some (sReader 12 13) from rfl)) rfl rfl (Nat.le_of_ble_eq_true rfl) (xRok (d' := d - 1) (by omega) (by decide)) ⟨Nat.le_refl _, Nat.le_refl _⟩ d_Reader_takeWord_41 rfl ?_
        refine X_i2l d_Reader_takeWord_44 ?_
        refine X_ladd d_Reader_takeWord_45 ?_
        refine X_ldc2 cs_Reader_33 d_Reader_takeWord_46 ?_
        refine X_lsub d_Reader_takeWord_49 ?_
        refine X_lconst (v := 1) d_Reader_takeWord_50 rfl ?_
        refine X_ladd d_Reader_takeWord_51 ?_
        refine X_goto (tgt := 58) d_Reader_takeWord_52 (by decide) ?_
        refine X_lstore_n d_Reader_takeWord_58 rfl (by decide) [1, 0, 2] (L' := [(0, .ref (xg G 11)), (1, .long (((((wNum (I 12) n q i) * 32) + ((rB (I 12) n (q + i)).toInt64)) - 97) + 1)), (3, .int (nI i))]) rfl ?_
        refine X_aload_n d_Reader_takeWord_59 rfl rfl ?_
        refine X_dup d_Reader_takeWord_60 rfl ?_
        refine X_getI (v := nI (q + i)) fg_Reader_44 (show xYc 11 = some (sReader 12 13) from rfl) rfl ((congrFun (xup_s _ _ _) _).trans (rQ_3 _ _ _ _ _ _ _)) d_Reader_takeWord_61 ?_
        refine X_iconst (v := 1) d_Reader_takeWord_64 rfl ?_
        refine X_iadd d_Reader_takeWord_65 ?_
        refine X_putI fp_Reader_44 (show xYc 11 = some (sReader 12 13) from rfl) rfl d_Reader_takeWord_66 ?_
        rw [xw_rec]
        rw [rQs_3]
        refine X_iinc d_Reader_takeWord_69 rfl (v := (nI i) + 1) rfl (by decide) [1, 2, 0] (L' := [(0, .ref (xg G 11)), (1, .long (((((wNum (I 12) n q i) * 32) + ((rB (I 12) n (q + i)).toInt64)) - 97) + 1)), (3, .int ((nI i) + 1))]) rfl ?_
        refine X_goto (tgt := 4) d_Reader_takeWord_72 (by decide) ?_
        have hlt : i < 160 := nI_more hi (by decide) c_1
        have key := ih hlt (rRun_s hlt hr c_2)
        unfold Q_Reader_takeWord_z at key
        rw [wNum, if_pos (nI_lss (n := 6) (by omega) (by decide) c_3), ← Nat.add_assoc] at key
        rw [nI_1, nI_1]
        exact key
theorem c_Reader_takeWord_z (l : Launch) (G : xG) {d : Nat} (nn : Nat) (hd : 2 ≤ d) (I : xI) (f : Nat → Int32) (n : Nat) (h2 : f 2 = nI n) (hn : n ≤ 160) (q : Nat) (hq : q ≤ 160) (pl tk nu op fa : Int32) : XM l G d y_Reader_takeWord b_Reader_takeWord 4 (none) 0 0 xK0 [.ref (xg G 11)] nn (xm G xYc (xup I 11 (rQ f (nI q) pl tk nu op fa))) (none) nn (xm G xYc (xup I 11 (rQ f (nI (rRun bLetter (I 12) n 160 q)) pl (wTok (wNum (I 12) n q (rRun bLetter (I 12) n 160 q - q)) 12) nu op fa))) := by
  refine XM.of (by decide) (Nat.le_of_ble_eq_true rfl) (L := [(0, .ref (xg G 11))]) rfl ?_
  refine X_lconst (v := 0) d_Reader_takeWord_0 rfl ?_
  refine X_lstore_n d_Reader_takeWord_1 rfl (by decide) [1, 0] (L' := [(0, .ref (xg G 11)), (1, .long 0)]) rfl ?_
  refine X_iconst (v := 0) d_Reader_takeWord_2 rfl ?_
  refine X_istore_n d_Reader_takeWord_3 rfl (by decide) [1, 2, 0] (L' := [(0, .ref (xg G 11)), (1, .long 0), (3, .int 0)]) rfl ?_
  have hx := xloop (Q := fun i => rRun bLetter (I 12) n (160 - i) (q + i) = rRun bLetter (I 12) n 160 q → Q_Reader_takeWord_z l G d nn I f n q (rRun bLetter (I 12) n 160 q) pl nu op fa tk i) (T := 160) (fun i hi ih => w_Reader_takeWord_z l G nn (by omega) I f n h2 hn q _ hq pl nu op fa tk i hi ih) 0 (Nat.zero_le _) rfl
  unfold Q_Reader_takeWord_z at hx
  exact hx
def Q_Reader_advance_z (l : Launch) (G : xG) (d nn : Nat) (I : xI) (f : Nat → Int32) (n p q : Nat) (pl tk nu op fa : Int32) (i : Nat) : Prop := XW l G (xR d 0 0) y_Reader_advance b_Reader_advance 2 none xK0 (xZ G nn (xm G xYc (xup I 11 (vAd f (I 12) n q nu op fa))) none 0 0) nn (xm G xYc (xup I 11 (rQ f (nI (p + i)) pl tk nu op fa))) 0 0 2 [(0, .ref (xg G 11)), (1, .int (nI i))] []
theorem w_Reader_advance_z (l : Launch) (G : xG) {d : Nat} (nn : Nat) (hd : 3 ≤ d) (I : xI) (f : Nat → Int32) (n : Nat) (h2 : f 2 = nI n) (hn : n ≤ 160) (p q : Nat) (hp : p ≤ 160) (hq : q ≤ 160) (pl tk nu op fa : Int32) (i : Nat) (hi : i ≤ 160) (ih : i < 160 → rRun bBlank (I 12) n (160 - (i + 1)) (p + i + 1) = q → Q_Reader_advance_z l G d nn I f n p q pl tk nu op fa (i + 1)) (hr : rRun bBlank (I 12) n (160 - i) (p + i) = q) : Q_Reader_advance_z l G d nn I f n p q pl tk nu op fa i := by
  unfold Q_Reader_advance_z
  refine X_iload_n d_Reader_advance_2 rfl rfl ?_
  refine X_sipush (v := 160) d_Reader_advance_3 rfl ?_
  refine X_icmp_ge (tgt := 39) d_Reader_advance_6 (by decide) (fun c_1 => ?_) (fun c_1 => ?_)
  ·
    have hz : i = 160 := nI_done hi (by decide) c_1
    subst hz
    have he : p + 160 = q := rRun_z hr
    rw [he]
    refine X_aload_n d_Reader_advance_39 rfl rfl ?_
    refine X_aload_n d_Reader_advance_40 rfl rfl ?_
    refine X_getI (v := nI q) fg_Reader_44 (show xYc 11 = some (sReader 12 13) from rfl) rfl ((congrFun (xup_s _ _ _) _).trans (rQ_3 _ _ _ _ _ _ _)) d_Reader_advance_41 ?_
    refine X_putI fp_Reader_71 (show xYc 11 = some (sReader 12 13) from rfl) rfl d_Reader_advance_44 ?_
    rw [xw_rec]
    rw [rQs_4]
    refine X_aload_n d_Reader_advance_47 rfl rfl ?_
    refine X_aload_n d_Reader_advance_48 rfl rfl ?_
    refine X_getI (v := nI q) fg_Reader_44 (show xYc 11 = some (sReader 12 13) from rfl) rfl ((congrFun (xup_s _ _ _) _).trans (rQ_3 _ _ _ _ _ _ _)) d_Reader_advance_49 ?_
    refine X_callV (v := .int (rB (I 12) n q)) (rest := []) (c_Reader_byteAt_z l G nn (by omega) I f n h2 hn (nI q) (nI q) tk nu op fa q (by omega)) lk_Reader_byteAt ml_Reader_108 (xm_obj (show xYc 11 = some (sReader 12 13) from rfl)) rfl rfl (Nat.le_of_ble_eq_true rfl) (xRok (d' := d - 1) (by omega) (by decide)) ⟨Nat.le_refl _, Nat.le_refl _⟩ d_Reader_advance_52 rfl ?_
    refine X_istore_n d_Reader_advance_55 rfl (by decide) [1, 0] (L' := [(0, .ref (xg G 11)), (1, .int (rB (I 12) n q))]) rfl ?_
    refine X_iload_n d_Reader_advance_56 rfl rfl ?_
    refine X_if_ge (tgt := 68) d_Reader_advance_57 (by decide) (fun c_2 => ?_) (fun c_2 => ?_)
    ·
      refine X_iload_n d_Reader_advance_68 rfl rfl ?_
      refine X_callS (v := .int (xb (bLetter (rB (I 12) n q)))) (rest := []) (c_Reader_isLetter l G nn _ (by omega) (rB (I 12) n q)) lk_Reader_isLetter ml_Reader_115 rfl (Nat.le_of_ble_eq_true rfl) (xRok (d' := d - 1) (by omega) (by decide)) ⟨Nat.le_refl _, Nat.le_refl _⟩ d_Reader_advance_69 rfl ?_
      refine X_ifb_eq (tgt := 82) d_Reader_advance_72 (by decide) (fun c_3 => ?_) (fun c_3 => ?_)
      ·
        refine X_iload_n d_Reader_advance_82 rfl rfl ?_
        refine X_callS (v := .int (xb (bDigit (rB (I 12) n q)))) (rest := []) (c_Reader_isDigit l G nn _ (by omega) (rB (I 12) n q)) lk_Reader_isDigit ml_Reader_121 rfl (Nat.le_of_ble_eq_true rfl) (xRok (d' := d - 1) (by omega) (by decide)) ⟨Nat.le_refl _, Nat.le_refl _⟩ d_Reader_advance_83 rfl ?_
        refine X_ifb_eq (tgt := 96) d_Reader_advance_86 (by decide) (fun c_4 => ?_) (fun c_4 => ?_)
        ·
          refine X_aload_n d_Reader_advance_96 rfl rfl ?_
          refine X_dup d_Reader_advance_97 rfl ?_
          refine X_getI (v := nI q) fg_Reader_44 (show xYc 11 = some (sReader 12 13) from rfl) rfl ((congrFun (xup_s _ _ _) _).trans (rQ_3 _ _ _ _ _ _ _)) d_Reader_advance_98 ?_
          refine X_iconst (v := 1) d_Reader_advance_101 rfl ?_
          refine X_iadd d_Reader_advance_102 ?_
          refine X_putI fp_Reader_44 (show xYc 11 = some (sReader 12 13) from rfl) rfl d_Reader_advance_103 ?_
          rw [xw_rec]
          rw [rQs_3]
          refine X_aload_n d_Reader_advance_106 rfl rfl ?_
          refine X_iload_n d_Reader_advance_107 rfl rfl ?_
          refine X_callS (v := .int (xb (bSign (rB (I 12) n q)))) (rest := [.ref (xg G 11)]) (c_Reader_isSign l G nn _ (by omega) (rB (I 12) n q)) lk_Reader_isSign ml_Reader_127 rfl (Nat.le_of_ble_eq_true rfl) (xRok (d' := d - 1) (by omega) (by decide)) ⟨Nat.le_refl _, Nat.le_refl _⟩ d_Reader_advance_108 rfl ?_
          refine X_ifb_eq (tgt := 118) d_Reader_advance_111 (by decide) (fun c_5 => ?_) (fun c_5 => ?_)
          ·
            refine X_iconst (v := -1) d_Reader_advance_118 rfl ?_
            refine X_putI fp_Reader_74 (show xYc 11 = some (sReader 12 13) from rfl) rfl d_Reader_advance_119 ?_
            rw [xw_rec]
            rw [rQs_5]
            exact X_vret rfl rfl (xle_of (congrArg (xm G xYc) (by simp [vAd, vNx, vTk, vNu, nI_1, c_2, Int32.not_lt.mpr c_2, c_3, c_4, c_5]))) d_Reader_advance_122
          ·
            refine X_iload_n d_Reader_advance_114 rfl rfl ?_
            refine X_goto (tgt := 119) d_Reader_advance_115 (by decide) ?_
            refine X_putI fp_Reader_74 (show xYc 11 = some (sReader 12 13) from rfl) rfl d_Reader_advance_119 ?_
            rw [xw_rec]
            rw [rQs_5]
            exact X_vret rfl rfl (xle_of (congrArg (xm G xYc) (by simp [vAd, vNx, vTk, vNu, nI_1, c_2, Int32.not_lt.mpr c_2, c_3, c_4, c_5]))) d_Reader_advance_122
        ·
          refine X_aload_n d_Reader_advance_89 rfl rfl ?_
          refine X_callVv (rest := []) (c_Reader_takeNumber_z l G nn (by omega) I f n h2 hn q (by omega) tk nu op fa) lk_Reader_takeNumber ml_Reader_124 (xm_obj (show xYc 11 = some (sReader 12 13) from rfl)) rfl rfl (Nat.le_of_ble_eq_true rfl) (xRok (d' := d - 1) (by omega) (by decide)) ⟨Nat.le_refl _, Nat.le_refl _⟩ d_Reader_advance_90 rfl ?_
          refine X_goto (tgt := 122) d_Reader_advance_93 (by decide) ?_
          exact X_vret rfl rfl (xle_of (congrArg (xm G xYc) (by simp [vAd, vNx, vTk, vNu, nI_1, c_2, Int32.not_lt.mpr c_2, c_3, c_4]))) d_Reader_advance_122
      ·
        refine X_aload_n d_Reader_advance_75 rfl rfl ?_
        refine X_callVv (rest := []) (c_Reader_takeWord_z l G nn (by omega) I f n h2 hn q (by omega) (nI q) tk nu op fa) lk_Reader_takeWord ml_Reader_118 (xm_obj (show xYc 11 = some (sReader 12 13) from rfl)) rfl rfl (Nat.le_of_ble_eq_true rfl) (xRok (d' := d - 1) (by omega) (by decide)) ⟨Nat.le_refl _, Nat.le_refl _⟩ d_Reader_advance_76 rfl ?_
        refine X_goto (tgt := 122) d_Reader_advance_79 (by decide) ?_
        exact X_vret rfl rfl (xle_of (congrArg (xm G xYc) (by simp [vAd, vNx, vTk, vNu, nI_1, c_2, Int32.not_lt.mpr c_2, c_3]))) d_Reader_advance_122
    ·
      refine X_aload_n d_Reader_advance_60 rfl rfl ?_
      refine X_iconst (v := 0) d_Reader_advance_61 rfl ?_
      refine X_putI fp_Reader_74 (show xYc 11 = some (sReader 12 13) from rfl) rfl d_Reader_advance_62 ?_
      rw [xw_rec]
      rw [rQs_5]
      refine X_goto (tgt := 122) d_Reader_advance_65 (by decide) ?_
      exact X_vret rfl rfl (xle_of (congrArg (xm G xYc) (by simp [vAd, vNx, vTk, vNu, nI_1, c_2, Int32.not_le.mp c_2]))) d_Reader_advance_122
  ·
    refine X_aload_n d_Reader_advance_9 rfl rfl ?_
    refine X_aload_n d_Reader_advance_10 rfl rfl ?_
    refine X_getI (v := nI (p + i)) fg_Reader_44 (show xYc 11 = some (sReader 12 13) from rfl) rfl ((congrFun (xup_s _ _ _) _).trans (rQ_3 _ _ _ _ _ _ _)) d_Reader_advance_11 ?_
    refine X_callV (v := .int (rB (I 12) n (p + i))) (rest := []) (c_Reader_byteAt_z l G nn (by omega) I f n h2 hn (nI (p + i)) pl tk nu op fa (p + i) (by omega)) lk_Reader_byteAt ml_Reader_108 (xm_obj (show xYc 11 = some (sReader 12 13) from rfl)) rfl rfl (Nat.le_of_ble_eq_true rfl) (xRok (d' := d - 1) (by omega) (by decide)) ⟨Nat.le_refl _, Nat.le_refl _⟩ d_Reader_advance_14 rfl ?_
    refine X_callS (v := .int (xb (bBlank (rB (I 12) n (p + i))))) (rest := []) (c_Reader_isBlank l G nn _ (by omega) (rB (I 12) n (p + i))) lk_Reader_isBlank ml_Reader_112 rfl (Nat.le_of_ble_eq_true rfl) (xRok (d' := d - 1) (by omega) (by decide)) ⟨Nat.le_refl _, Nat.le_refl _⟩ d_Reader_advance_17 rfl ?_
    refine X_ifb_eq (tgt := 39) d_Reader_advance_20 (by decide) (fun c_6 => ?_) (fun c_6 => ?_)
    ·
      have hlt : i < 160 := nI_more hi (by decide) c_1
      have he : p + i = q := rRun_e hlt hr (by simp [c_6])
      rw [he]
      refine X_aload_n d_Reader_advance_39 rfl rfl ?_
      refine X_aload_n d_Reader_advance_40 rfl rfl ?_
      refine X_getI (v := nI q) fg_Reader_44 (show xYc 11 = some (sReader 12 13) from rfl) rfl ((congrFun (xup_s _ _ _) _).trans (rQ_3 _ _ _ _ _ _ _)) d_Reader_advance_41 ?_
      refine X_putI fp_Reader_71 (show xYc 11 = some (sReader 12 13) from rfl) rfl d_Reader_advance_44 ?_
      rw [xw_rec]
      rw [rQs_4]
      refine X_aload_n d_Reader_advance_47 rfl rfl ?_
      refine X_aload_n d_Reader_advance_48 rfl rfl ?_
      refine X_getI (v := nI q) fg_Reader_44 (show xYc 11 = some (sReader 12 13) from rfl) rfl ((congrFun (xup_s _ _ _) _).trans (rQ_3 _ _ _ _ _ _ _)) d_Reader_advance_49 ?_
      refine X_callV (v := .int (rB (I 12) n q)) (rest := []) (c_Reader_byteAt_z l G nn (by omega) I f n h2 hn (nI q) (nI q) tk nu op fa q (by omega)) lk_Reader_byteAt ml_Reader_108 (xm_obj (show xYc 11 = some (sReader 12 13) from rfl)) rfl rfl (Nat.le_of_ble_eq_true rfl) (xRok (d' := d - 1) (by omega) (by decide)) ⟨Nat.le_refl _, Nat.le_refl _⟩ d_Reader_advance_52 rfl ?_
      refine X_istore_n d_Reader_advance_55 rfl (by decide) [1, 0] (L' := [(0, .ref (xg G 11)), (1, .int (rB (I 12) n q))]) rfl ?_
      refine X_iload_n d_Reader_advance_56 rfl rfl ?_
      refine X_if_ge (tgt := 68) d_Reader_advance_57 (by decide) (fun c_7 => ?_) (fun c_7 => ?_)
      ·
        refine X_iload_n d_Reader_advance_68 rfl rfl ?_
        refine X_callS (v := .int (xb (bLetter (rB (I 12) n q)))) (rest := []) (c_Reader_isLetter l G nn _ (by omega) (rB (I 12) n q)) lk_Reader_isLetter ml_Reader_115 rfl (Nat.le_of_ble_eq_true rfl) (xRok (d' := d - 1) (by omega) (by decide)) ⟨Nat.le_refl _, Nat.le_refl _⟩ d_Reader_advance_69 rfl ?_
        refine X_ifb_eq (tgt := 82) d_Reader_advance_72 (by decide) (fun c_8 => ?_) (fun c_8 => ?_)
        ·
          refine X_iload_n d_Reader_advance_82 rfl rfl ?_
          refine X_callS (v := .int (xb (bDigit (rB (I 12) n q)))) (rest := []) (c_Reader_isDigit l G nn _ (by omega) (rB (I 12) n q)) lk_Reader_isDigit ml_Reader_121 rfl (Nat.le_of_ble_eq_true rfl) (xRok (d' := d - 1) (by omega) (by decide)) ⟨Nat.le_refl _, Nat.le_refl _⟩ d_Reader_advance_83 rfl ?_
          refine X_ifb_eq (tgt := 96) d_Reader_advance_86 (by decide) (fun c_9 => ?_) (fun c_9 => ?_)
          ·
            refine X_aload_n d_Reader_advance_96 rfl rfl ?_
            refine X_dup d_Reader_advance_97 rfl ?_
            refine X_getI (v := nI q) fg_Reader_44 (show xYc 11 = some (sReader 12 13) from rfl) rfl ((congrFun (xup_s _ _ _) _).trans (rQ_3 _ _ _ _ _ _ _)) d_Reader_advance_98 ?_
            refine X_iconst (v := 1) d_Reader_advance_101 rfl ?_
            refine X_iadd d_Reader_advance_102 ?_
            refine X_putI fp_Reader_44 (show xYc 11 = some (sReader 12 13) from rfl) rfl d_Reader_advance_103 ?_
            rw [xw_rec]
            rw [rQs_3]
            refine X_aload_n d_Reader_advance_106 rfl rfl ?_
            refine X_iload_n d_Reader_advance_107 rfl rfl ?_
            refine X_callS (v := .int (xb (bSign (rB (I 12) n q)))) (rest := [.ref (xg G 11)]) (c_Reader_isSign l G nn _ (by omega) (rB (I 12) n q)) lk_Reader_isSign ml_Reader_127 rfl (Nat.le_of_ble_eq_true rfl) (xRok (d' := d - 1) (by omega) (by decide)) ⟨Nat.le_refl _, Nat.le_refl _⟩ d_Reader_advance_108 rfl ?_
            refine X_ifb_eq (tgt := 118) d_Reader_advance_111 (by decide) (fun c_10 => ?_) (fun c_10 => ?_)
            ·
              refine X_iconst (v := -1) d_Reader_advance_118 rfl ?_
              refine X_putI fp_Reader_74 (show xYc 11 = some (sReader 12 13) from rfl) rfl d_Reader_advance_119 ?_
              rw [xw_rec]
              rw [rQs_5]
              exact X_vret rfl rfl (xle_of (congrArg (xm G xYc) (by simp [vAd, vNx, vTk, vNu, nI_1, c_7, Int32.not_lt.mpr c_7, c_8, c_9, c_10]))) d_Reader_advance_122
            ·
              refine X_iload_n d_Reader_advance_114 rfl rfl ?_
              refine X_goto (tgt := 119) d_Reader_advance_115 (by decide) ?_
              refine X_putI fp_Reader_74 (show xYc 11 = some (sReader 12 13) from rfl) rfl d_Reader_advance_119 ?_
              rw [xw_rec]
              rw [rQs_5]
              exact X_vret rfl rfl (xle_of (congrArg (xm G xYc) (by simp [vAd, vNx, vTk, vNu, nI_1, c_7, Int32.not_lt.mpr c_7, c_8, c_9, c_10]))) d_Reader_advance_122
          ·
            refine X_aload_n d_Reader_advance_89 rfl rfl ?_
            refine X_callVv (rest := []) (c_Reader_takeNumber_z l G nn (by omega) I f n h2 hn q (by omega) tk nu op fa) lk_Reader_takeNumber ml_Reader_124 (xm_obj (show xYc 11 = some (sReader 12 13) from rfl)) rfl rfl (Nat.le_of_ble_eq_true rfl) (xRok (d' := d - 1) (by omega) (by decide)) ⟨Nat.le_refl _, Nat.le_refl _⟩ d_Reader_advance_90 rfl ?_
            refine X_goto (tgt := 122) d_Reader_advance_93 (by decide) ?_
            exact X_vret rfl rfl (xle_of (congrArg (xm G xYc) (by simp [vAd, vNx, vTk, vNu, nI_1, c_7, Int32.not_lt.mpr c_7, c_8, c_9]))) d_Reader_advance_122
        ·
          refine X_aload_n d_Reader_advance_75 rfl rfl ?_
          refine X_callVv (rest := []) (c_Reader_takeWord_z l G nn (by omega) I f n h2 hn q (by omega) (nI q) tk nu op fa) lk_Reader_takeWord ml_Reader_118 (xm_obj (show xYc 11 = some (sReader 12 13) from rfl)) rfl rfl (Nat.le_of_ble_eq_true rfl) (xRok (d' := d - 1) (by omega) (by decide)) ⟨Nat.le_refl _, Nat.le_refl _⟩ d_Reader_advance_76 rfl ?_
          refine X_goto (tgt := 122) d_Reader_advance_79 (by decide) ?_
          exact X_vret rfl rfl (xle_of (congrArg (xm G xYc) (by simp [vAd, vNx, vTk, vNu, nI_1, c_7, Int32.not_lt.mpr c_7, c_8]))) d_Reader_advance_122
      ·
        refine X_aload_n d_Reader_advance_60 rfl rfl ?_
        refine X_iconst (v := 0) d_Reader_advance_61 rfl ?_
        refine X_putI fp_Reader_74 (show xYc 11 = some (sReader 12 13) from rfl) rfl d_Reader_advance_62 ?_
        rw [xw_rec]
        rw [rQs_5]
        refine X_goto (tgt := 122) d_Reader_advance_65 (by decide) ?_
        exact X_vret rfl rfl (xle_of (congrArg (xm G xYc) (by simp [vAd, vNx, vTk, vNu, nI_1, c_7, Int32.not_le.mp c_7]))) d_Reader_advance_122
    ·
      refine X_aload_n d_Reader_advance_23 rfl rfl ?_
      refine X_dup d_Reader_advance_24 rfl ?_
      refine X_getI (v := nI (p + i)) fg_Reader_44 (show xYc 11 = some (sReader 12 13) from rfl) rfl ((congrFun (xup_s _ _ _) _).trans (rQ_3 _ _ _ _ _ _ _)) d_Reader_advance_25 ?_
      refine X_iconst (v := 1) d_Reader_advance_28 rfl ?_
      refine X_iadd d_Reader_advance_29 ?_
      refine X_putI fp_Reader_44 (show xYc 11 = some (sReader 12 13) from rfl) rfl d_Reader_advance_30 ?_
      rw [xw_rec]
      rw [rQs_3]
      refine X_iinc d_Reader_advance_33 rfl (v := (nI i) + 1) rfl (by decide) [1, 0] (L' := [(0, .ref (xg G 11)), (1, .int ((nI i) + 1))]) rfl ?_
      refine X_goto (tgt := 2) d_Reader_advance_36 (by decide) ?_
      have hlt : i < 160 := nI_more hi (by decide) c_1
      have key := ih hlt (rRun_s hlt hr c_6)
      unfold Q_Reader_advance_z at key
      rw [← Nat.add_assoc] at key
      rw [nI_1, nI_1]
      exact key
theorem c_Reader_advance_z (l : Launch) (G : xG) {d : Nat} (nn : Nat) (hd : 3 ≤ d) (I : xI) (f : Nat → Int32) (n : Nat) (h2 : f 2 = nI n) (hn : n ≤ 160) (p : Nat) (hp : p ≤ 160) (hq : rRun bBlank (I 12) n 160 p ≤ 160) (pl tk nu op fa : Int32) : XM l G d y_Reader_advance b_Reader_advance 2 (none) 0 0 xK0 [.ref (xg G 11)] nn (xm G xYc (xup I 11 (rQ f (nI p) pl tk nu op fa))) (none) nn (xm G xYc (xup I 11 (vAd f (I 12) n (rRun bBlank (I 12) n 160 p) nu op fa))) := by
  refine XM.of (by decide) (Nat.le_of_ble_eq_true rfl) (L := [(0, .ref (xg G 11))]) rfl ?_
  refine X_iconst (v := 0) d_Reader_advance_0 rfl ?_
  refine X_istore_n d_Reader_advance_1 rfl (by decide) [1, 0] (L' := [(0, .ref (xg G 11)), (1, .int 0)]) rfl ?_
  have hx := xloop (Q := fun i => rRun bBlank (I 12) n (160 - i) (p + i) = rRun bBlank (I 12) n 160 p → Q_Reader_advance_z l G d nn I f n p (rRun bBlank (I 12) n 160 p) pl tk nu op fa i) (T := 160) (fun i hi ih => w_Reader_advance_z l G nn (by omega) I f n h2 hn p _ hp hq pl tk nu op fa i hi ih) 0 (Nat.zero_le _) rfl
  unfold Q_Reader_advance_z at hx
  exact hx

def tSh_z (t : Nat) : Prop := xYc t = some (sText t) ∧ xYc (t + 1) = some (sInts 160) ∧ xYc (t + 2) = some (sInts 3) ∧ 15 ≤ t
theorem pOK_add_z {n o t : Nat} {I : xI} (h : pOK n o I) (ht : tSh_z t) (v : Int32) : pOK n o (iAdd t v I) := by
  have := ht.2.2.2
  unfold iAdd
  split
  · exact pOK_r h (by rw [xw_row _ _ _ (by omega), xw_row _ _ _ (by omega)])
  · exact h
theorem pOK_end_z {n o t : Nat} {I : xI} (h : pOK n o I) (ht : tSh_z t) : pOK n o (iEnd t I) := by
  have := ht.2.2.2
  unfold iEnd
  split
  · exact pOK_r h (by rw [xw_row _ _ _ (by omega), xw_row _ _ _ (by omega)])
  · exact h
theorem k_Reader_advance_z (l : Launch) (G : xG) {d : Nat} (nn : Nat) (hd : 3 ≤ d) {n o : Nat} (I : xI) (h : pOK n o I) : XM l G d y_Reader_advance b_Reader_advance 2 none 0 0 xK0 [.ref (xg G 11)] nn (xm G xYc I) none nn (xm G xYc (iAdv I)) := by
  obtain ⟨hn, h2, ⟨p, hp, h3⟩, h7⟩ := h
  have q := c_Reader_advance_z l G nn hd I (I 11) n h2 hn p (by omega) (Nat.le_trans (rRun_n rfl _ _ _ _ hp) hn) (I 11 4) (I 11 5) (I 11 6) (I 11 7) (I 11 8)
  rw [← h3, mself] at q
  have e : iAdv I = xup I 11 (vAd (I 11) (I 12) n (rRun bBlank (I 12) n 160 p) (I 11 6) (I 11 7) (I 11 8)) := by
    unfold iAdv
    rw [h2, h3, nI_cl (show n < 2 ^ 31 by omega), nI_cl (show p < 2 ^ 31 by omega)]
  rw [e]
  exact q
theorem k_Reader_failed_z (l : Launch) (G : xG) {d : Nat} (nn : Nat) (hd : 1 ≤ d) (I : xI) : XM l G d y_Reader_failed b_Reader_failed 1 (some .boolean) 0 0 xK0 [.ref (xg G 11)] nn (xm G xYc I) (some (.int (xb (decide (0 ≤ I 11 8))))) nn (xm G xYc I) := by
  have q := c_Reader_failed_z l G nn hd I (I 11) (I 11 3) (I 11 4) (I 11 5) (I 11 6) (I 11 7) (I 11 8)
  rw [mself] at q
  exact q
theorem k_Reader_at_z (l : Launch) (G : xG) {d : Nat} (nn : Nat) (hd : 2 ≤ d) (I : xI) (w : Int32) : XM l G d y_Reader_at b_Reader_at 2 (some .boolean) 0 0 xK0 [.ref (xg G 11), .int w] nn (xm G xYc I) (some (.int (xb (bAt w I)))) nn (xm G xYc I) := by
  have q := c_Reader_at_z l G nn hd I (I 11) (I 11 3) (I 11 4) (I 11 5) (I 11 6) (I 11 7) (I 11 8) w
  rw [mself] at q
  exact q
theorem k_Reader_fail_z (l : Launch) (G : xG) {d : Nat} (nn : Nat) (hd : 2 ≤ d) (I : xI) : XM l G d y_Reader_fail b_Reader_fail 1 none 0 0 xK0 [.ref (xg G 11)] nn (xm G xYc I) none nn (xm G xYc (iFail I)) := by
  have q := c_Reader_fail_z l G nn hd I (I 11) (I 11 3) (I 11 4) (I 11 5) (I 11 6) (I 11 7) (I 11 8)
  rw [mself, ← rQs_8, rQ_self] at q
  exact q
theorem k_Text_clear_z (l : Launch) (G : xG) {d : Nat} (nn : Nat) (hd : 1 ≤ d) (t : Nat) (hs : tSh_z t) (I : xI) : XM l G d y_Text_clear b_Text_clear 1 (none) 0 0 xK0 [.ref (xg G t)] nn (xm G xYc I) (none) nn (xm G xYc (iClr t I)) := by
  have h15 := hs.2.2.2
  refine XM.of (by decide) (Nat.le_of_ble_eq_true rfl) (L := [(0, .ref (xg G t))]) rfl ?_
  refine X_aload_n d_Text_clear_0 rfl rfl ?_
  refine X_iconst (v := 0) d_Text_clear_1 rfl ?_
  refine X_putI fp_Text_21 hs.1 rfl d_Text_clear_2 ?_
  refine X_aload_n d_Text_clear_5 rfl rfl ?_
  refine X_iconst (v := 0) d_Text_clear_6 rfl ?_
  refine X_putI fp_Text_25 hs.1 rfl d_Text_clear_7 ?_
  exact X_vret rfl rfl (xle_of (congrArg (xm G xYc) (by rfl))) d_Text_clear_10
theorem k_Text_add_z (l : Launch) (G : xG) {d : Nat} (nn : Nat) (hd : 1 ≤ d) (t : Nat) (hs : tSh_z t) (I : xI) (v : Int32) : XM l G d y_Text_add b_Text_add 2 (none) 0 0 xK0 [.ref (xg G t), .int v] nn (xm G xYc I) (none) nn (xm G xYc (iAdd t v I)) := by
  have h15 := hs.2.2.2
  refine XM.of (by decide) (Nat.le_of_ble_eq_true rfl) (L := [(0, .ref (xg G t)), (1, .int v)]) rfl ?_
  refine X_aload_n d_Text_add_0 rfl rfl ?_
  refine X_getI (v := I t 3) fg_Text_21 hs.1 rfl (rfl) d_Text_add_1 ?_
  refine X_if_lt (tgt := 39) d_Text_add_4 (by decide) (fun c_1 => ?_) (fun c_1 => ?_)
  ·
    exact X_vret rfl rfl (xle_of (congrArg (xm G xYc) (by simp only [iAdd, iEnd]; first | rw [if_pos ⟨by grind, by grind⟩] | rw [if_neg (by grind)]))) d_Text_add_39
  ·
    refine X_aload_n d_Text_add_7 rfl rfl ?_
    refine X_getI (v := I t 3) fg_Text_21 hs.1 rfl (rfl) d_Text_add_8 ?_
    refine X_aload_n d_Text_add_11 rfl rfl ?_
    refine X_getR (r := t + 1) fg_Text_9 hs.1 rfl d_Text_add_12 ?_
    refine X_alenI (v := 160) hs.2.1 rfl d_Text_add_15 ?_
    refine X_icmp_ge (tgt := 39) d_Text_add_16 (by decide) (fun c_2 => ?_) (fun c_2 => ?_)
    ·
      exact X_vret rfl rfl (xle_of (congrArg (xm G xYc) (by simp only [iAdd, iEnd]; first | rw [if_pos ⟨by grind, by grind⟩] | rw [if_neg (by grind)]))) d_Text_add_39
    ·
      refine X_aload_n d_Text_add_19 rfl rfl ?_
      refine X_getR (r := t + 1) fg_Text_9 hs.1 rfl d_Text_add_20 ?_
      refine X_aload_n d_Text_add_23 rfl rfl ?_
      refine X_getI (v := I t 3) fg_Text_21 hs.1 rfl (rfl) d_Text_add_24 ?_
      refine X_iload_n d_Text_add_27 rfl rfl ?_
      refine X_astI hs.2.1 (xvp (B := 160) (by grind) (by grind) (by decide)) d_Text_add_28 ?_
      refine X_aload_n d_Text_add_29 rfl rfl ?_
      refine X_dup d_Text_add_30 rfl ?_
      refine X_getI (v := I t 3) fg_Text_21 hs.1 rfl (xw_a _ _ _ _ (by omega)) d_Text_add_31 ?_
      refine X_iconst (v := 1) d_Text_add_34 rfl ?_
      refine X_iadd d_Text_add_35 ?_
      refine X_putI fp_Text_21 hs.1 rfl d_Text_add_36 ?_
      exact X_vret rfl rfl (xle_of (congrArg (xm G xYc) (by simp only [iAdd, iEnd]; first | rw [if_pos ⟨by grind, by grind⟩] | rw [if_neg (by grind)]))) d_Text_add_39
theorem k_Text_endPart_z (l : Launch) (G : xG) {d : Nat} (nn : Nat) (hd : 1 ≤ d) (t : Nat) (hs : tSh_z t) (I : xI) : XM l G d y_Text_endPart b_Text_endPart 1 (none) 0 0 xK0 [.ref (xg G t)] nn (xm G xYc I) (none) nn (xm G xYc (iEnd t I)) := by
  have h15 := hs.2.2.2
  refine XM.of (by decide) (Nat.le_of_ble_eq_true rfl) (L := [(0, .ref (xg G t))]) rfl ?_
  refine X_aload_n d_Text_endPart_0 rfl rfl ?_
  refine X_getI (v := I t 4) fg_Text_25 hs.1 rfl (rfl) d_Text_endPart_1 ?_
  refine X_if_lt (tgt := 42) d_Text_endPart_4 (by decide) (fun c_1 => ?_) (fun c_1 => ?_)
  ·
    exact X_vret rfl rfl (xle_of (congrArg (xm G xYc) (by simp only [iAdd, iEnd]; first | rw [if_pos ⟨by grind, by grind⟩] | rw [if_neg (by grind)]))) d_Text_endPart_42
  ·
    refine X_aload_n d_Text_endPart_7 rfl rfl ?_
    refine X_getI (v := I t 4) fg_Text_25 hs.1 rfl (rfl) d_Text_endPart_8 ?_
    refine X_aload_n d_Text_endPart_11 rfl rfl ?_
    refine X_getR (r := t + 2) fg_Text_15 hs.1 rfl d_Text_endPart_12 ?_
    refine X_alenI (v := 3) hs.2.2.1 rfl d_Text_endPart_15 ?_
    refine X_icmp_ge (tgt := 42) d_Text_endPart_16 (by decide) (fun c_2 => ?_) (fun c_2 => ?_)
    ·
      exact X_vret rfl rfl (xle_of (congrArg (xm G xYc) (by simp only [iAdd, iEnd]; first | rw [if_pos ⟨by grind, by grind⟩] | rw [if_neg (by grind)]))) d_Text_endPart_42
    ·
      refine X_aload_n d_Text_endPart_19 rfl rfl ?_
      refine X_getR (r := t + 2) fg_Text_15 hs.1 rfl d_Text_endPart_20 ?_
      refine X_aload_n d_Text_endPart_23 rfl rfl ?_
      refine X_getI (v := I t 4) fg_Text_25 hs.1 rfl (rfl) d_Text_endPart_24 ?_
      refine X_aload_n d_Text_endPart_27 rfl rfl ?_
      refine X_getI (v := I t 3) fg_Text_21 hs.1 rfl (rfl) d_Text_endPart_28 ?_
      refine X_astI hs.2.2.1 (xvp (B := 3) (by grind) (by grind) (by decide)) d_Text_endPart_31 ?_
      refine X_aload_n d_Text_endPart_32 rfl rfl ?_
      refine X_dup d_Text_endPart_33 rfl ?_
      refine X_getI (v := I t 4) fg_Text_25 hs.1 rfl (xw_a _ _ _ _ (by omega)) d_Text_endPart_34 ?_
      refine X_iconst (v := 1) d_Text_endPart_37 rfl ?_
      refine X_iadd d_Text_endPart_38 ?_
      refine X_putI fp_Text_25 hs.1 rfl d_Text_endPart_39 ?_
      exact X_vret rfl rfl (xle_of (congrArg (xm G xYc) (by simp only [iAdd, iEnd]; first | rw [if_pos ⟨by grind, by grind⟩] | rw [if_neg (by grind)]))) d_Text_endPart_42
def cF_z (l : Launch) (G : xG) (h : Nat) (y : MethodName) (b : ByteArray) (ml n o t : Nat) (F : xI → xI) : Prop := (∀ (d nn : Nat) (I : xI), h ≤ d → pOK n o I → XM l G d y b ml none 0 0 xK0 [.ref (xg G 11), .ref (xg G t)] nn (xm G xYc I) none nn (xm G xYc (F I))) ∧ ∀ I, pOK n o I → pOK n o (F I)
theorem k_Reader_expect_z (l : Launch) (G : xG) {d : Nat} (nn : Nat) (hd : 4 ≤ d) {n o : Nat} (I : xI) (w : Int32) (h : pOK n o I) : XM l G d y_Reader_expect b_Reader_expect 2 (none) 0 0 xK0 [.ref (xg G 11), .int w] nn (xm G xYc I) (none) nn (xm G xYc (iExp w I)) := by
  refine XM.of (by decide) (Nat.le_of_ble_eq_true rfl) (L := [(0, .ref (xg G 11)), (1, .int w)]) rfl ?_
  refine X_aload_n d_Reader_expect_0 rfl rfl ?_
  refine X_getI (v := I 11 5) fg_Reader_74 (show xYc 11 = some (sReader 12 13) from rfl) rfl (rfl) d_Reader_expect_1 ?_
  refine X_iload_n d_Reader_expect_4 rfl rfl ?_
  refine X_icmp_eq (tgt := 12) d_Reader_expect_5 (by decide) (fun c_1 => ?_) (fun c_1 => ?_)
  ·
    refine X_aload_n d_Reader_expect_12 rfl rfl ?_
    refine X_callV (v := .int (xb (decide (0 ≤ I 11 8)))) (rest := []) (k_Reader_failed_z l G nn (by omega) I ) lk_Reader_failed ml_Reader_67 (xm_obj (show xYc 11 = some (sReader 12 13) from rfl)) rfl rfl (Nat.le_of_ble_eq_true rfl) (xRok (d' := d - 1) (by omega) (by decide)) ⟨Nat.le_refl _, Nat.le_refl _⟩ d_Reader_expect_13 rfl ?_
    refine X_ifb_ne (tgt := 23) d_Reader_expect_16 (by decide) (fun c_2 => ?_) (fun c_2 => ?_)
    ·
      exact X_vret rfl rfl (xle_of (congrArg (xm G xYc) (by have e : iTok w I = I := if_pos c_1; rw [iExp, e, if_pos (of_decide_eq_true c_2)]))) d_Reader_expect_23
    ·
      refine X_aload_n d_Reader_expect_19 rfl rfl ?_
      refine X_callVv (rest := []) (k_Reader_advance_z l G nn (by omega) I  h) lk_Reader_advance ml_Reader_53 (xm_obj (show xYc 11 = some (sReader 12 13) from rfl)) rfl rfl (Nat.le_of_ble_eq_true rfl) (xRok (d' := d - 1) (by omega) (by decide)) ⟨Nat.le_refl _, Nat.le_refl _⟩ d_Reader_expect_20 rfl ?_
      exact X_vret rfl rfl (xle_of (congrArg (xm G xYc) (by have e : iTok w I = I := if_pos c_1; rw [iExp, e, if_neg (of_decide_eq_false c_2)]))) d_Reader_expect_23
  ·
    refine X_aload_n d_Reader_expect_8 rfl rfl ?_
    refine X_callVv (rest := []) (k_Reader_fail_z l G nn (by omega) I ) lk_Reader_fail ml_Reader_77 (xm_obj (show xYc 11 = some (sReader 12 13) from rfl)) rfl rfl (Nat.le_of_ble_eq_true rfl) (xRok (d' := d - 1) (by omega) (by decide)) ⟨Nat.le_refl _, Nat.le_refl _⟩ d_Reader_expect_9 rfl ?_
    refine X_aload_n d_Reader_expect_12 rfl rfl ?_
    refine X_callV (v := .int (xb (decide (0 ≤ (iFail I) 11 8)))) (rest := []) (k_Reader_failed_z l G nn (by omega) (iFail I) ) lk_Reader_failed ml_Reader_67 (xm_obj (show xYc 11 = some (sReader 12 13) from rfl)) rfl rfl (Nat.le_of_ble_eq_true rfl) (xRok (d' := d - 1) (by omega) (by decide)) ⟨Nat.le_refl _, Nat.le_refl _⟩ d_Reader_expect_13 rfl ?_
    refine X_ifb_ne (tgt := 23) d_Reader_expect_16 (by decide) (fun c_3 => ?_) (fun c_3 => ?_)
    ·
      exact X_vret rfl rfl (xle_of (congrArg (xm G xYc) (by have e : iTok w I = iFail I := if_neg c_1; rw [iExp, e, if_pos (of_decide_eq_true c_3)]))) d_Reader_expect_23
    ·
      refine X_aload_n d_Reader_expect_19 rfl rfl ?_
      refine X_callVv (rest := []) (k_Reader_advance_z l G nn (by omega) (iFail I)  (pOK_fail h)) lk_Reader_advance ml_Reader_53 (xm_obj (show xYc 11 = some (sReader 12 13) from rfl)) rfl rfl (Nat.le_of_ble_eq_true rfl) (xRok (d' := d - 1) (by omega) (by decide)) ⟨Nat.le_refl _, Nat.le_refl _⟩ d_Reader_expect_20 rfl ?_
      exact X_vret rfl rfl (xle_of (congrArg (xm G xYc) (by have e : iTok w I = iFail I := if_neg c_1; rw [iExp, e, if_neg (of_decide_eq_false c_3)]))) d_Reader_expect_23
theorem k_Reader_opened_z (l : Launch) (G : xG) {d : Nat} (nn : Nat) (hd : 4 ≤ d) {n o : Nat} (I : xI) (h : pOK n o I) : XM l G d y_Reader_opened b_Reader_opened 1 (some .boolean) 0 0 xK0 [.ref (xg G 11)] nn (xm G xYc I) (some (.int (xb (decide (I 11 7 < 5))))) nn (xm G xYc (iOpn I)) := by
  refine XM.of (by decide) (Nat.le_of_ble_eq_true rfl) (L := [(0, .ref (xg G 11))]) rfl ?_
  refine X_aload_n d_Reader_opened_0 rfl rfl ?_
  refine X_getI (v := I 11 7) fg_Reader_47 (show xYc 11 = some (sReader 12 13) from rfl) rfl (rfl) d_Reader_opened_1 ?_
  refine X_iconst (v := 5) d_Reader_opened_4 rfl ?_
  refine X_icmp_lt (tgt := 14) d_Reader_opened_5 (by decide) (fun c_1 => ?_) (fun c_1 => ?_)
  ·
    refine X_aload_n d_Reader_opened_14 rfl rfl ?_
    refine X_dup d_Reader_opened_15 rfl ?_
    refine X_getI (v := I 11 7) fg_Reader_47 (show xYc 11 = some (sReader 12 13) from rfl) rfl (rfl) d_Reader_opened_16 ?_
    refine X_iconst (v := 1) d_Reader_opened_19 rfl ?_
    refine X_iadd d_Reader_opened_20 ?_
    refine X_putI fp_Reader_47 (show xYc 11 = some (sReader 12 13) from rfl) rfl d_Reader_opened_21 ?_
    refine X_aload_n d_Reader_opened_24 rfl rfl ?_
    refine X_callVv (rest := []) (k_Reader_advance_z l G nn (by omega) (iInc I)  (pOK_inc h)) lk_Reader_advance ml_Reader_53 (xm_obj (show xYc 11 = some (sReader 12 13) from rfl)) rfl rfl (Nat.le_of_ble_eq_true rfl) (xRok (d' := d - 1) (by omega) (by decide)) ⟨Nat.le_refl _, Nat.le_refl _⟩ d_Reader_opened_25 rfl ?_
    refine X_iconst (v := 1) d_Reader_opened_28 rfl ?_
    exact X_zret rfl rfl (congrArg (fun q => some (Value.int q)) (by simp [xb, c_1, Int32.not_le.mpr c_1])) (xle_of (congrArg (xm G xYc) (by unfold iOpn; first | rw [if_pos (by grind)] | rw [if_neg (by grind)]))) d_Reader_opened_29
  ·
    refine X_aload_n d_Reader_opened_8 rfl rfl ?_
    refine X_callVv (rest := []) (k_Reader_fail_z l G nn (by omega) I ) lk_Reader_fail ml_Reader_77 (xm_obj (show xYc 11 = some (sReader 12 13) from rfl)) rfl rfl (Nat.le_of_ble_eq_true rfl) (xRok (d' := d - 1) (by omega) (by decide)) ⟨Nat.le_refl _, Nat.le_refl _⟩ d_Reader_opened_9 rfl ?_
    refine X_iconst (v := 0) d_Reader_opened_12 rfl ?_
    exact X_zret rfl rfl (congrArg (fun q => some (Value.int q)) (by simp [xb, c_1, Int32.not_lt.mp c_1])) (xle_of (congrArg (xm G xYc) (by unfold iOpn; first | rw [if_pos (by grind)] | rw [if_neg (by grind)]))) d_Reader_opened_13
theorem pOK_lop_z {n o t : Nat} (hs : tSh_z t) {sub : xI → xI} (hS : ∀ I, pOK n o I → pOK n o (sub I)) (tok item : Int32) : ∀ j I, pOK n o I → pOK n o (iLop sub t tok item j I)
  | 0, _, h => h
  | j + 1, I, h => by
    rw [iLop]
    split
    · exact pOK_lop_z hs hS tok item j _ (pOK_add_z (hS _ (pOK_adv h)) hs item)
    · exact h
theorem pOK_sop_z {n o t : Nat} (hs : tSh_z t) {sub : xI → xI} (hS : ∀ I, pOK n o I → pOK n o (sub I)) : ∀ j I, pOK n o I → pOK n o (iSop sub t j I)
  | 0, _, h => h
  | j + 1, I, h => by
    rw [iSop]
    split
    · exact pOK_sop_z hs hS j _ (pOK_add_z (hS _ (pOK_adv h)) hs _)
    · exact h
def Q_Reader_readTerm_z (l : Launch) (G : xG) (d nn t : Nat) (sub : xI → xI) (i : Nat) (I : xI) : Prop := XW l G (xR d 0 0) y_Reader_readTerm b_Reader_readTerm 3 none xK0 (xZ G nn (xm G xYc (iLop sub t 42 20006 (160 - i) I)) none 0 0) nn (xm G xYc I) 0 0 7 [(0, .ref (xg G 11)), (1, .ref (xg G t)), (2, .int (nI i))] []
theorem w_Reader_readTerm_z (l : Launch) (G : xG) {d : Nat} (nn : Nat) {n o t h : Nat} (hs : tSh_z t) (ho5 : o ≤ 5) {sub : xI → xI} (hS : cF_z l G h y_Reader_readOne b_Reader_readOne 2 n o t sub) (h3 : 3 ≤ h) (hd : h + 1 ≤ d) (i : Nat) (hi : i ≤ 160) (ih : i < 160 → ∀ I, pOK n o I → Q_Reader_readTerm_z l G d nn t sub (i + 1) I) (I : xI) (h : pOK n o I) : Q_Reader_readTerm_z l G d nn t sub i I := by
  unfold Q_Reader_readTerm_z
  refine X_iload_n d_Reader_readTerm_7 rfl rfl ?_
  refine X_sipush (v := 160) d_Reader_readTerm_8 rfl ?_
  refine X_icmp_ge (tgt := 45) d_Reader_readTerm_11 (by decide) (fun c_1 => ?_) (fun c_1 => ?_)
  ·
    have hz : 160 - i = 0 := by have := nI_done hi (by decide) c_1; omega
    rw [hz]
    exact X_vret rfl rfl (xle_rf _) d_Reader_readTerm_45
  ·
    refine X_aload_n d_Reader_readTerm_14 rfl rfl ?_
    refine X_bipush (v := 42) d_Reader_readTerm_15 rfl ?_
    refine X_callV (v := .int (xb (bAt 42 I))) (rest := []) (k_Reader_at_z l G nn (by omega) I 42) lk_Reader_at ml_Reader_83 (xm_obj (show xYc 11 = some (sReader 12 13) from rfl)) rfl rfl (Nat.le_of_ble_eq_true rfl) (xRok (d' := d - 1) (by omega) (by decide)) ⟨Nat.le_refl _, Nat.le_refl _⟩ d_Reader_readTerm_17 rfl ?_
    refine X_ifb_eq (tgt := 45) d_Reader_readTerm_20 (by decide) (fun c_2 => ?_) (fun c_2 => ?_)
    ·
      have hlt : i < 160 := nI_more hi (by decide) c_1
      have hz : 160 - i = (160 - (i + 1)) + 1 := by omega
      rw [hz, iLop, if_neg (by simp [c_2])]
      exact X_vret rfl rfl (xle_rf _) d_Reader_readTerm_45
    ·
      refine X_aload_n d_Reader_readTerm_23 rfl rfl ?_
      refine X_callVv (rest := []) (k_Reader_advance_z l G nn (by omega) I  h) lk_Reader_advance ml_Reader_53 (xm_obj (show xYc 11 = some (sReader 12 13) from rfl)) rfl rfl (Nat.le_of_ble_eq_true rfl) (xRok (d' := d - 1) (by omega) (by decide)) ⟨Nat.le_refl _, Nat.le_refl _⟩ d_Reader_readTerm_24 rfl ?_
      refine X_aload_n d_Reader_readTerm_27 rfl rfl ?_
      refine X_aload_n d_Reader_readTerm_28 rfl rfl ?_
      refine X_callVv (rest := []) (hS.1 _ nn (iAdv I) (by omega) (pOK_adv h)) lk_Reader_readOne ml_Reader_102 (xm_obj (show xYc 11 = some (sReader 12 13) from rfl)) rfl rfl (Nat.le_of_ble_eq_true rfl) (xRok (d' := d - 1) (by omega) (by decide)) ⟨Nat.le_refl _, Nat.le_refl _⟩ d_Reader_readTerm_29 rfl ?_
      refine X_aload_n d_Reader_readTerm_32 rfl rfl ?_
      refine X_sipush (v := 20006) d_Reader_readTerm_33 rfl ?_
      refine X_callVv (rest := []) (k_Text_add_z l G nn (by omega) t hs (sub (iAdv I)) 20006) lk_Text_add ml_Reader_87 (xm_obj hs.1) rfl rfl (Nat.le_of_ble_eq_true rfl) (xRok (d' := d - 1) (by omega) (by decide)) ⟨Nat.le_refl _, Nat.le_refl _⟩ d_Reader_readTerm_36 rfl ?_
      refine X_iinc d_Reader_readTerm_39 rfl (v := (nI i) + 1) rfl (by decide) [1, 2, 0] (L' := [(0, .ref (xg G 11)), (1, .ref (xg G t)), (2, .int ((nI i) + 1))]) rfl ?_
      refine X_goto (tgt := 7) d_Reader_readTerm_42 (by decide) ?_
      have hlt : i < 160 := nI_more hi (by decide) c_1
      have hz : 160 - i = (160 - (i + 1)) + 1 := by omega
      have key := ih hlt _ (pOK_add_z (hS.2 _ (pOK_adv h)) hs 20006)
      unfold Q_Reader_readTerm_z at key
      rw [hz, iLop, if_pos c_2, nI_1]
      exact key
theorem k_Reader_readTerm_z (l : Launch) (G : xG) {n o t h : Nat} (hs : tSh_z t) (ho5 : o ≤ 5) {sub : xI → xI} (hS : cF_z l G h y_Reader_readOne b_Reader_readOne 2 n o t sub) (h3 : 3 ≤ h) : cF_z l G (h + 1) y_Reader_readTerm b_Reader_readTerm 3 n o t (iLev sub t 42 20006) := by
  refine ⟨fun d nn I hd h => ?_, fun I h => pOK_lop_z hs hS.2 _ _ 160 _ (hS.2 _ h)⟩
  refine XM.of (by decide) (Nat.le_of_ble_eq_true rfl) (L := [(0, .ref (xg G 11)), (1, .ref (xg G t))]) rfl ?_
  refine X_aload_n d_Reader_readTerm_0 rfl rfl ?_
  refine X_aload_n d_Reader_readTerm_1 rfl rfl ?_
  refine X_callVv (rest := []) (hS.1 _ nn I (by omega) h) lk_Reader_readOne ml_Reader_102 (xm_obj (show xYc 11 = some (sReader 12 13) from rfl)) rfl rfl (Nat.le_of_ble_eq_true rfl) (xRok (d' := d - 1) (by omega) (by decide)) ⟨Nat.le_refl _, Nat.le_refl _⟩ d_Reader_readTerm_2 rfl ?_
  refine X_iconst (v := 0) d_Reader_readTerm_5 rfl ?_
  refine X_istore_n d_Reader_readTerm_6 rfl (by decide) [1, 2, 0] (L' := [(0, .ref (xg G 11)), (1, .ref (xg G t)), (2, .int 0)]) rfl ?_
  have hx := xloop (Q := fun i => ∀ I, pOK n o I → Q_Reader_readTerm_z l G d nn t sub i I) (T := 160) (fun i hi ih => w_Reader_readTerm_z l G nn hs ho5 hS h3 hd i hi ih) 0 (Nat.zero_le _) _ (hS.2 _ h)
  unfold Q_Reader_readTerm_z at hx
  exact hx
def Q_Reader_readSum_z (l : Launch) (G : xG) (d nn t : Nat) (sub : xI → xI) (i : Nat) (I : xI) : Prop := XW l G (xR d 0 0) y_Reader_readSum b_Reader_readSum 4 none xK0 (xZ G nn (xm G xYc (iSop sub t (160 - i) I)) none 0 0) nn (xm G xYc I) 0 0 7 [(0, .ref (xg G 11)), (1, .ref (xg G t)), (2, .int (nI i))] []
theorem w_Reader_readSum_z (l : Launch) (G : xG) {d : Nat} (nn : Nat) {n o t h : Nat} (hs : tSh_z t) (ho5 : o ≤ 5) {sub : xI → xI} (hS : cF_z l G h y_Reader_readTerm b_Reader_readTerm 3 n o t sub) (h3 : 3 ≤ h) (hd : h + 1 ≤ d) (i : Nat) (hi : i ≤ 160) (ih : i < 160 → ∀ I, pOK n o I → Q_Reader_readSum_z l G d nn t sub (i + 1) I) (I : xI) (h : pOK n o I) : Q_Reader_readSum_z l G d nn t sub i I := by
  unfold Q_Reader_readSum_z
  refine X_iload_n d_Reader_readSum_7 rfl rfl ?_
  refine X_sipush (v := 160) d_Reader_readSum_8 rfl ?_
  refine X_icmp_ge (tgt := 71) d_Reader_readSum_11 (by decide) (fun c_1 => ?_) (fun c_1 => ?_)
  ·
    have hz : 160 - i = 0 := by have := nI_done hi (by decide) c_1; omega
    rw [hz]
    exact X_vret rfl rfl (xle_rf _) d_Reader_readSum_71
  ·
    refine X_aload_n d_Reader_readSum_14 rfl rfl ?_
    refine X_bipush (v := 43) d_Reader_readSum_15 rfl ?_
    refine X_callV (v := .int (xb (bAt 43 I))) (rest := []) (k_Reader_at_z l G nn (by omega) I 43) lk_Reader_at ml_Reader_83 (xm_obj (show xYc 11 = some (sReader 12 13) from rfl)) rfl rfl (Nat.le_of_ble_eq_true rfl) (xRok (d' := d - 1) (by omega) (by decide)) ⟨Nat.le_refl _, Nat.le_refl _⟩ d_Reader_readSum_17 rfl ?_
    refine X_ifb_ne (tgt := 32) d_Reader_readSum_20 (by decide) (fun c_2 => ?_) (fun c_2 => ?_)
    ·
      refine X_aload_n d_Reader_readSum_32 rfl rfl ?_
      refine X_getI (v := I 11 5) fg_Reader_74 (show xYc 11 = some (sReader 12 13) from rfl) rfl (rfl) d_Reader_readSum_33 ?_
      refine X_bipush (v := 43) d_Reader_readSum_36 rfl ?_
      refine X_icmp_ne (tgt := 47) d_Reader_readSum_38 (by decide) (fun c_3 => ?_) (fun c_3 => ?_)
      ·
        refine X_sipush (v := 20005) d_Reader_readSum_47 rfl ?_
        refine X_istore_n d_Reader_readSum_50 rfl (by decide) [1, 2, 3, 0] (L' := [(0, .ref (xg G 11)), (1, .ref (xg G t)), (2, .int (nI i)), (3, .int 20005)]) rfl ?_
        refine X_aload_n d_Reader_readSum_51 rfl rfl ?_
        refine X_callVv (rest := []) (k_Reader_advance_z l G nn (by omega) I  h) lk_Reader_advance ml_Reader_53 (xm_obj (show xYc 11 = some (sReader 12 13) from rfl)) rfl rfl (Nat.le_of_ble_eq_true rfl) (xRok (d' := d - 1) (by omega) (by decide)) ⟨Nat.le_refl _, Nat.le_refl _⟩ d_Reader_readSum_52 rfl ?_
        refine X_aload_n d_Reader_readSum_55 rfl rfl ?_
        refine X_aload_n d_Reader_readSum_56 rfl rfl ?_
        refine X_callVv (rest := []) (hS.1 _ nn (iAdv I) (by omega) (pOK_adv h)) lk_Reader_readTerm ml_Reader_99 (xm_obj (show xYc 11 = some (sReader 12 13) from rfl)) rfl rfl (Nat.le_of_ble_eq_true rfl) (xRok (d' := d - 1) (by omega) (by decide)) ⟨Nat.le_refl _, Nat.le_refl _⟩ d_Reader_readSum_57 rfl ?_
        refine X_aload_n d_Reader_readSum_60 rfl rfl ?_
        refine X_iload_n d_Reader_readSum_61 rfl rfl ?_
        refine X_callVv (rest := []) (k_Text_add_z l G nn (by omega) t hs (sub (iAdv I)) 20005) lk_Text_add ml_Reader_87 (xm_obj hs.1) rfl rfl (Nat.le_of_ble_eq_true rfl) (xRok (d' := d - 1) (by omega) (by decide)) ⟨Nat.le_refl _, Nat.le_refl _⟩ d_Reader_readSum_62 rfl ?_
        refine X_iinc d_Reader_readSum_65 rfl (v := (nI i) + 1) rfl (by decide) [1, 2, 0, 3] (L' := [(0, .ref (xg G 11)), (1, .ref (xg G t)), (2, .int ((nI i) + 1)), (3, .int 20005)]) rfl ?_
        refine X_goto (tgt := 7) d_Reader_readSum_68 (by decide) ?_
        have hlt : i < 160 := nI_more hi (by decide) c_1
        have hz : 160 - i = (160 - (i + 1)) + 1 := by omega
        have key := ih hlt _ (pOK_add_z (hS.2 _ (pOK_adv h)) hs 20005)
        unfold Q_Reader_readSum_z at key
        refine X_sub [0, 1, 2] (L' := [(0, .ref (xg G 11)), (1, .ref (xg G t)), (2, .int ((nI i) + 1))]) rfl ?_
        rw [hz, iSop, if_pos (by simp [c_2]), if_neg c_3, nI_1]
        exact key
      ·
        refine X_sipush (v := 20004) d_Reader_readSum_41 rfl ?_
        refine X_goto (tgt := 50) d_Reader_readSum_44 (by decide) ?_
        refine X_istore_n d_Reader_readSum_50 rfl (by decide) [1, 2, 3, 0] (L' := [(0, .ref (xg G 11)), (1, .ref (xg G t)), (2, .int (nI i)), (3, .int 20004)]) rfl ?_
        refine X_aload_n d_Reader_readSum_51 rfl rfl ?_
        refine X_callVv (rest := []) (k_Reader_advance_z l G nn (by omega) I  h) lk_Reader_advance ml_Reader_53 (xm_obj (show xYc 11 = some (sReader 12 13) from rfl)) rfl rfl (Nat.le_of_ble_eq_true rfl) (xRok (d' := d - 1) (by omega) (by decide)) ⟨Nat.le_refl _, Nat.le_refl _⟩ d_Reader_readSum_52 rfl ?_
        refine X_aload_n d_Reader_readSum_55 rfl rfl ?_
        refine X_aload_n d_Reader_readSum_56 rfl rfl ?_
        refine X_callVv (rest := []) (hS.1 _ nn (iAdv I) (by omega) (pOK_adv h)) lk_Reader_readTerm ml_Reader_99 (xm_obj (show xYc 11 = some (sReader 12 13) from rfl)) rfl rfl (Nat.le_of_ble_eq_true rfl) (xRok (d' := d - 1) (by omega) (by decide)) ⟨Nat.le_refl _, Nat.le_refl _⟩ d_Reader_readSum_57 rfl ?_
        refine X_aload_n d_Reader_readSum_60 rfl rfl ?_
        refine X_iload_n d_Reader_readSum_61 rfl rfl ?_
        refine X_callVv (rest := []) (k_Text_add_z l G nn (by omega) t hs (sub (iAdv I)) 20004) lk_Text_add ml_Reader_87 (xm_obj hs.1) rfl rfl (Nat.le_of_ble_eq_true rfl) (xRok (d' := d - 1) (by omega) (by decide)) ⟨Nat.le_refl _, Nat.le_refl _⟩ d_Reader_readSum_62 rfl ?_
        refine X_iinc d_Reader_readSum_65 rfl (v := (nI i) + 1) rfl (by decide) [1, 2, 0, 3] (L' := [(0, .ref (xg G 11)), (1, .ref (xg G t)), (2, .int ((nI i) + 1)), (3, .int 20004)]) rfl ?_
        refine X_goto (tgt := 7) d_Reader_readSum_68 (by decide) ?_
        have hlt : i < 160 := nI_more hi (by decide) c_1
        have hz : 160 - i = (160 - (i + 1)) + 1 := by omega
        have key := ih hlt _ (pOK_add_z (hS.2 _ (pOK_adv h)) hs 20004)
        unfold Q_Reader_readSum_z at key
        refine X_sub [0, 1, 2] (L' := [(0, .ref (xg G 11)), (1, .ref (xg G t)), (2, .int ((nI i) + 1))]) rfl ?_
        rw [hz, iSop, if_pos (by simp [c_2]), if_pos c_3, nI_1]
        exact key
    ·
      refine X_aload_n d_Reader_readSum_23 rfl rfl ?_
      refine X_bipush (v := 45) d_Reader_readSum_24 rfl ?_
      refine X_callV (v := .int (xb (bAt 45 I))) (rest := []) (k_Reader_at_z l G nn (by omega) I 45) lk_Reader_at ml_Reader_83 (xm_obj (show xYc 11 = some (sReader 12 13) from rfl)) rfl rfl (Nat.le_of_ble_eq_true rfl) (xRok (d' := d - 1) (by omega) (by decide)) ⟨Nat.le_refl _, Nat.le_refl _⟩ d_Reader_readSum_26 rfl ?_
      refine X_ifb_eq (tgt := 71) d_Reader_readSum_29 (by decide) (fun c_4 => ?_) (fun c_4 => ?_)
      ·
        have hlt : i < 160 := nI_more hi (by decide) c_1
        have hz : 160 - i = (160 - (i + 1)) + 1 := by omega
        rw [hz, iSop, if_neg (by simp [c_2, c_4])]
        exact X_vret rfl rfl (xle_rf _) d_Reader_readSum_71
      ·
        refine X_aload_n d_Reader_readSum_32 rfl rfl ?_
        refine X_getI (v := I 11 5) fg_Reader_74 (show xYc 11 = some (sReader 12 13) from rfl) rfl (rfl) d_Reader_readSum_33 ?_
        refine X_bipush (v := 43) d_Reader_readSum_36 rfl ?_
        refine X_icmp_ne (tgt := 47) d_Reader_readSum_38 (by decide) (fun c_5 => ?_) (fun c_5 => ?_)
        ·
          refine X_sipush (v := 20005) d_Reader_readSum_47 rfl ?_
          refine X_istore_n d_Reader_readSum_50 rfl (by decide) [1, 2, 3, 0] (L' := [(0, .ref (xg G 11)), (1, .ref (xg G t)), (2, .int (nI i)), (3, .int 20005)]) rfl ?_
          refine X_aload_n d_Reader_readSum_51 rfl rfl ?_
          refine X_callVv (rest := []) (k_Reader_advance_z l G nn (by omega) I  h) lk_Reader_advance ml_Reader_53 (xm_obj (show xYc 11 = some (sReader 12 13) from rfl)) rfl rfl (Nat.le_of_ble_eq_true rfl) (xRok (d' := d - 1) (by omega) (by decide)) ⟨Nat.le_refl _, Nat.le_refl _⟩ d_Reader_readSum_52 rfl ?_
          refine X_aload_n d_Reader_readSum_55 rfl rfl ?_
          refine X_aload_n d_Reader_readSum_56 rfl rfl ?_
          refine X_callVv (rest := []) (hS.1 _ nn (iAdv I) (by omega) (pOK_adv h)) lk_Reader_readTerm ml_Reader_99 (xm_obj (show xYc 11 = some (sReader 12 13) from rfl)) rfl rfl (Nat.le_of_ble_eq_true rfl) (xRok (d' := d - 1) (by omega) (by decide)) ⟨Nat.le_refl _, Nat.le_refl _⟩ d_Reader_readSum_57 rfl ?_
          refine X_aload_n d_Reader_readSum_60 rfl rfl ?_
          refine X_iload_n d_Reader_readSum_61 rfl rfl ?_
          refine X_callVv (rest := []) (k_Text_add_z l G nn (by omega) t hs (sub (iAdv I)) 20005) lk_Text_add ml_Reader_87 (xm_obj hs.1) rfl rfl (Nat.le_of_ble_eq_true rfl) (xRok (d' := d - 1) (by omega) (by decide)) ⟨Nat.le_refl _, Nat.le_refl _⟩ d_Reader_readSum_62 rfl ?_
          refine X_iinc d_Reader_readSum_65 rfl (v := (nI i) + 1) rfl (by decide) [1, 2, 0, 3] (L' := [(0, .ref (xg G 11)), (1, .ref (xg G t)), (2, .int ((nI i) + 1)), (3, .int 20005)]) rfl ?_
          refine X_goto (tgt := 7) d_Reader_readSum_68 (by decide) ?_
          have hlt : i < 160 := nI_more hi (by decide) c_1
          have hz : 160 - i = (160 - (i + 1)) + 1 := by omega
          have key := ih hlt _ (pOK_add_z (hS.2 _ (pOK_adv h)) hs 20005)
          unfold Q_Reader_readSum_z at key
          refine X_sub [0, 1, 2] (L' := [(0, .ref (xg G 11)), (1, .ref (xg G t)), (2, .int ((nI i) + 1))]) rfl ?_
          rw [hz, iSop, if_pos (by simp [c_2, c_4]), if_neg c_5, nI_1]
          exact key
        ·
          refine X_sipush (v := 20004) d_Reader_readSum_41 rfl ?_
          refine X_goto (tgt := 50) d_Reader_readSum_44 (by decide) ?_
          refine X_istore_n d_Reader_readSum_50 rfl (by decide) [1, 2, 3, 0] (L' := [(0, .ref (xg G 11)), (1, .ref (xg G t)), (2, .int (nI i)), (3, .int 20004)]) rfl ?_
          refine X_aload_n d_Reader_readSum_51 rfl rfl ?_
          refine X_callVv (rest := []) (k_Reader_advance_z l G nn (by omega) I  h) lk_Reader_advance ml_Reader_53 (xm_obj (show xYc 11 = some (sReader 12 13) from rfl)) rfl rfl (Nat.le_of_ble_eq_true rfl) (xRok (d' := d - 1) (by omega) (by decide)) ⟨Nat.le_refl _, Nat.le_refl _⟩ d_Reader_readSum_52 rfl ?_
          refine X_aload_n d_Reader_readSum_55 rfl rfl ?_
          refine X_aload_n d_Reader_readSum_56 rfl rfl ?_
          refine X_callVv (rest := []) (hS.1 _ nn (iAdv I) (by omega) (pOK_adv h)) lk_Reader_readTerm ml_Reader_99 (xm_obj (show xYc 11 = some (sReader 12 13) from rfl)) rfl rfl (Nat.le_of_ble_eq_true rfl) (xRok (d' := d - 1) (by omega) (by decide)) ⟨Nat.le_refl _, Nat.le_refl _⟩ d_Reader_readSum_57 rfl ?_
          refine X_aload_n d_Reader_readSum_60 rfl rfl ?_
          refine X_iload_n d_Reader_readSum_61 rfl rfl ?_
          refine X_callVv (rest := []) (k_Text_add_z l G nn (by omega) t hs (sub (iAdv I)) 20004) lk_Text_add ml_Reader_87 (xm_obj hs.1) rfl rfl (Nat.le_of_ble_eq_true rfl) (xRok (d' := d - 1) (by omega) (by decide)) ⟨Nat.le_refl _, Nat.le_refl _⟩ d_Reader_readSum_62 rfl ?_
          refine X_iinc d_Reader_readSum_65 rfl (v := (nI i) + 1) rfl (by decide) [1, 2, 0, 3] (L' := [(0, .ref (xg G 11)), (1, .ref (xg G t)), (2, .int ((nI i) + 1)), (3, .int 20004)]) rfl ?_
          refine X_goto (tgt := 7) d_Reader_readSum_68 (by decide) ?_
          have hlt : i < 160 := nI_more hi (by decide) c_1
          have hz : 160 - i = (160 - (i + 1)) + 1 := by omega
          have key := ih hlt _ (pOK_add_z (hS.2 _ (pOK_adv h)) hs 20004)
          unfold Q_Reader_readSum_z at key
          refine X_sub [0, 1, 2] (L' := [(0, .ref (xg G 11)), (1, .ref (xg G t)), (2, .int ((nI i) + 1))]) rfl ?_
          rw [hz, iSop, if_pos (by simp [c_2, c_4]), if_pos c_5, nI_1]
          exact key
theorem k_Reader_readSum_z (l : Launch) (G : xG) {n o t h : Nat} (hs : tSh_z t) (ho5 : o ≤ 5) {sub : xI → xI} (hS : cF_z l G h y_Reader_readTerm b_Reader_readTerm 3 n o t sub) (h3 : 3 ≤ h) : cF_z l G (h + 1) y_Reader_readSum b_Reader_readSum 4 n o t (iSum sub t) := by
  refine ⟨fun d nn I hd h => ?_, fun I h => pOK_sop_z hs hS.2 160 _ (hS.2 _ h)⟩
  refine XM.of (by decide) (Nat.le_of_ble_eq_true rfl) (L := [(0, .ref (xg G 11)), (1, .ref (xg G t))]) rfl ?_
  refine X_aload_n d_Reader_readSum_0 rfl rfl ?_
  refine X_aload_n d_Reader_readSum_1 rfl rfl ?_
  refine X_callVv (rest := []) (hS.1 _ nn I (by omega) h) lk_Reader_readTerm ml_Reader_99 (xm_obj (show xYc 11 = some (sReader 12 13) from rfl)) rfl rfl (Nat.le_of_ble_eq_true rfl) (xRok (d' := d - 1) (by omega) (by decide)) ⟨Nat.le_refl _, Nat.le_refl _⟩ d_Reader_readSum_2 rfl ?_
  refine X_iconst (v := 0) d_Reader_readSum_5 rfl ?_
  refine X_istore_n d_Reader_readSum_6 rfl (by decide) [1, 2, 0] (L' := [(0, .ref (xg G 11)), (1, .ref (xg G t)), (2, .int 0)]) rfl ?_
  have hx := xloop (Q := fun i => ∀ I, pOK n o I → Q_Reader_readSum_z l G d nn t sub i I) (T := 160) (fun i hi ih => w_Reader_readSum_z l G nn hs ho5 hS h3 hd i hi ih) 0 (Nat.zero_le _) _ (hS.2 _ h)
  unfold Q_Reader_readSum_z at hx
  exact hx
def Q_Reader_readAnd_z (l : Launch) (G : xG) (d nn t : Nat) (sub : xI → xI) (i : Nat) (I : xI) : Prop := XW l G (xR d 0 0) y_Reader_readAnd b_Reader_readAnd 3 none xK0 (xZ G nn (xm G xYc (iLop sub t 132 20001 (160 - i) I)) none 0 0) nn (xm G xYc I) 0 0 7 [(0, .ref (xg G 11)), (1, .ref (xg G t)), (2, .int (nI i))] []
theorem w_Reader_readAnd_z (l : Launch) (G : xG) {d : Nat} (nn : Nat) {n o t h : Nat} (hs : tSh_z t) (ho5 : o ≤ 5) {sub : xI → xI} (hS : cF_z l G h y_Reader_readNot b_Reader_readNot 3 n o t sub) (h3 : 3 ≤ h) (hd : h + 1 ≤ d) (i : Nat) (hi : i ≤ 160) (ih : i < 160 → ∀ I, pOK n o I → Q_Reader_readAnd_z l G d nn t sub (i + 1) I) (I : xI) (h : pOK n o I) : Q_Reader_readAnd_z l G d nn t sub i I := by
  unfold Q_Reader_readAnd_z
  refine X_iload_n d_Reader_readAnd_7 rfl rfl ?_
  refine X_sipush (v := 160) d_Reader_readAnd_8 rfl ?_
  refine X_icmp_ge (tgt := 46) d_Reader_readAnd_11 (by decide) (fun c_1 => ?_) (fun c_1 => ?_)
  ·
    have hz : 160 - i = 0 := by have := nI_done hi (by decide) c_1; omega
    rw [hz]
    exact X_vret rfl rfl (xle_rf _) d_Reader_readAnd_46
  ·
    refine X_aload_n d_Reader_readAnd_14 rfl rfl ?_
    refine X_sipush (v := 132) d_Reader_readAnd_15 rfl ?_
    refine X_callV (v := .int (xb (bAt 132 I))) (rest := []) (k_Reader_at_z l G nn (by omega) I 132) lk_Reader_at ml_Reader_83 (xm_obj (show xYc 11 = some (sReader 12 13) from rfl)) rfl rfl (Nat.le_of_ble_eq_true rfl) (xRok (d' := d - 1) (by omega) (by decide)) ⟨Nat.le_refl _, Nat.le_refl _⟩ d_Reader_readAnd_18 rfl ?_
    refine X_ifb_eq (tgt := 46) d_Reader_readAnd_21 (by decide) (fun c_2 => ?_) (fun c_2 => ?_)
    ·
      have hlt : i < 160 := nI_more hi (by decide) c_1
      have hz : 160 - i = (160 - (i + 1)) + 1 := by omega
      rw [hz, iLop, if_neg (by simp [c_2])]
      exact X_vret rfl rfl (xle_rf _) d_Reader_readAnd_46
    ·
      refine X_aload_n d_Reader_readAnd_24 rfl rfl ?_
      refine X_callVv (rest := []) (k_Reader_advance_z l G nn (by omega) I  h) lk_Reader_advance ml_Reader_53 (xm_obj (show xYc 11 = some (sReader 12 13) from rfl)) rfl rfl (Nat.le_of_ble_eq_true rfl) (xRok (d' := d - 1) (by omega) (by decide)) ⟨Nat.le_refl _, Nat.le_refl _⟩ d_Reader_readAnd_25 rfl ?_
      refine X_aload_n d_Reader_readAnd_28 rfl rfl ?_
      refine X_aload_n d_Reader_readAnd_29 rfl rfl ?_
      refine X_callVv (rest := []) (hS.1 _ nn (iAdv I) (by omega) (pOK_adv h)) lk_Reader_readNot ml_Reader_90 (xm_obj (show xYc 11 = some (sReader 12 13) from rfl)) rfl rfl (Nat.le_of_ble_eq_true rfl) (xRok (d' := d - 1) (by omega) (by decide)) ⟨Nat.le_refl _, Nat.le_refl _⟩ d_Reader_readAnd_30 rfl ?_
      refine X_aload_n d_Reader_readAnd_33 rfl rfl ?_
      refine X_sipush (v := 20001) d_Reader_readAnd_34 rfl ?_
      refine X_callVv (rest := []) (k_Text_add_z l G nn (by omega) t hs (sub (iAdv I)) 20001) lk_Text_add ml_Reader_87 (xm_obj hs.1) rfl rfl (Nat.le_of_ble_eq_true rfl) (xRok (d' := d - 1) (by omega) (by decide)) ⟨Nat.le_refl _, Nat.le_refl _⟩ d_Reader_readAnd_37 rfl ?_
      refine X_iinc d_Reader_readAnd_40 rfl (v := (nI i) + 1) rfl (by decide) [1, 2, 0] (L' := [(0, .ref (xg G 11)), (1, .ref (xg G t)), (2, .int ((nI i) + 1))]) rfl ?_
      refine X_goto (tgt := 7) d_Reader_readAnd_43 (by decide) ?_
      have hlt : i < 160 := nI_more hi (by decide) c_1
      have hz : 160 - i = (160 - (i + 1)) + 1 := by omega
      have key := ih hlt _ (pOK_add_z (hS.2 _ (pOK_adv h)) hs 20001)
      unfold Q_Reader_readAnd_z at key
      rw [hz, iLop, if_pos c_2, nI_1]
      exact key
theorem k_Reader_readAnd_z (l : Launch) (G : xG) {n o t h : Nat} (hs : tSh_z t) (ho5 : o ≤ 5) {sub : xI → xI} (hS : cF_z l G h y_Reader_readNot b_Reader_readNot 3 n o t sub) (h3 : 3 ≤ h) : cF_z l G (h + 1) y_Reader_readAnd b_Reader_readAnd 3 n o t (iLev sub t 132 20001) := by
  refine ⟨fun d nn I hd h => ?_, fun I h => pOK_lop_z hs hS.2 _ _ 160 _ (hS.2 _ h)⟩
  refine XM.of (by decide) (Nat.le_of_ble_eq_true rfl) (L := [(0, .ref (xg G 11)), (1, .ref (xg G t))]) rfl ?_
  refine X_aload_n d_Reader_readAnd_0 rfl rfl ?_
  refine X_aload_n d_Reader_readAnd_1 rfl rfl ?_
  refine X_callVv (rest := []) (hS.1 _ nn I (by omega) h) lk_Reader_readNot ml_Reader_90 (xm_obj (show xYc 11 = some (sReader 12 13) from rfl)) rfl rfl (Nat.le_of_ble_eq_true rfl) (xRok (d' := d - 1) (by omega) (by decide)) ⟨Nat.le_refl _, Nat.le_refl _⟩ d_Reader_readAnd_2 rfl ?_
  refine X_iconst (v := 0) d_Reader_readAnd_5 rfl ?_
  refine X_istore_n d_Reader_readAnd_6 rfl (by decide) [1, 2, 0] (L' := [(0, .ref (xg G 11)), (1, .ref (xg G t)), (2, .int 0)]) rfl ?_
  have hx := xloop (Q := fun i => ∀ I, pOK n o I → Q_Reader_readAnd_z l G d nn t sub i I) (T := 160) (fun i hi ih => w_Reader_readAnd_z l G nn hs ho5 hS h3 hd i hi ih) 0 (Nat.zero_le _) _ (hS.2 _ h)
  unfold Q_Reader_readAnd_z at hx
  exact hx
def Q_Reader_readOr_z (l : Launch) (G : xG) (d nn t : Nat) (sub : xI → xI) (i : Nat) (I : xI) : Prop := XW l G (xR d 0 0) y_Reader_readOr b_Reader_readOr 3 none xK0 (xZ G nn (xm G xYc (iLop sub t 131 20000 (160 - i) I)) none 0 0) nn (xm G xYc I) 0 0 7 [(0, .ref (xg G 11)), (1, .ref (xg G t)), (2, .int (nI i))] []
theorem w_Reader_readOr_z (l : Launch) (G : xG) {d : Nat} (nn : Nat) {n o t h : Nat} (hs : tSh_z t) (ho5 : o ≤ 5) {sub : xI → xI} (hS : cF_z l G h y_Reader_readAnd b_Reader_readAnd 3 n o t sub) (h3 : 3 ≤ h) (hd : h + 1 ≤ d) (i : Nat) (hi : i ≤ 160) (ih : i < 160 → ∀ I, pOK n o I → Q_Reader_readOr_z l G d nn t sub (i + 1) I) (I : xI) (h : pOK n o I) : Q_Reader_readOr_z l G d nn t sub i I := by
  unfold Q_Reader_readOr_z
  refine X_iload_n d_Reader_readOr_7 rfl rfl ?_
  refine X_sipush (v := 160) d_Reader_readOr_8 rfl ?_
  refine X_icmp_ge (tgt := 46) d_Reader_readOr_11 (by decide) (fun c_1 => ?_) (fun c_1 => ?_)
  ·
    have hz : 160 - i = 0 := by have := nI_done hi (by decide) c_1; omega
    rw [hz]
    exact X_vret rfl rfl (xle_rf _) d_Reader_readOr_46
  ·
    refine X_aload_n d_Reader_readOr_14 rfl rfl ?_
    refine X_sipush (v := 131) d_Reader_readOr_15 rfl ?_
    refine X_callV (v := .int (xb (bAt 131 I))) (rest := []) (k_Reader_at_z l G nn (by omega) I 131) lk_Reader_at ml_Reader_83 (xm_obj (show xYc 11 = some (sReader 12 13) from rfl)) rfl rfl (Nat.le_of_ble_eq_true rfl) (xRok (d' := d - 1) (by omega) (by decide)) ⟨Nat.le_refl _, Nat.le_refl _⟩ d_Reader_readOr_18 rfl ?_
    refine X_ifb_eq (tgt := 46) d_Reader_readOr_21 (by decide) (fun c_2 => ?_) (fun c_2 => ?_)
    ·
      have hlt : i < 160 := nI_more hi (by decide) c_1
      have hz : 160 - i = (160 - (i + 1)) + 1 := by omega
      rw [hz, iLop, if_neg (by simp [c_2])]
      exact X_vret rfl rfl (xle_rf _) d_Reader_readOr_46
    ·
      refine X_aload_n d_Reader_readOr_24 rfl rfl ?_
      refine X_callVv (rest := []) (k_Reader_advance_z l G nn (by omega) I  h) lk_Reader_advance ml_Reader_53 (xm_obj (show xYc 11 = some (sReader 12 13) from rfl)) rfl rfl (Nat.le_of_ble_eq_true rfl) (xRok (d' := d - 1) (by omega) (by decide)) ⟨Nat.le_refl _, Nat.le_refl _⟩ d_Reader_readOr_25 rfl ?_
      refine X_aload_n d_Reader_readOr_28 rfl rfl ?_
      refine X_aload_n d_Reader_readOr_29 rfl rfl ?_
      refine X_callVv (rest := []) (hS.1 _ nn (iAdv I) (by omega) (pOK_adv h)) lk_Reader_readAnd ml_Reader_80 (xm_obj (show xYc 11 = some (sReader 12 13) from rfl)) rfl rfl (Nat.le_of_ble_eq_true rfl) (xRok (d' := d - 1) (by omega) (by decide)) ⟨Nat.le_refl _, Nat.le_refl _⟩ d_Reader_readOr_30 rfl ?_
      refine X_aload_n d_Reader_readOr_33 rfl rfl ?_
      refine X_sipush (v := 20000) d_Reader_readOr_34 rfl ?_
      refine X_callVv (rest := []) (k_Text_add_z l G nn (by omega) t hs (sub (iAdv I)) 20000) lk_Text_add ml_Reader_87 (xm_obj hs.1) rfl rfl (Nat.le_of_ble_eq_true rfl) (xRok (d' := d - 1) (by omega) (by decide)) ⟨Nat.le_refl _, Nat.le_refl _⟩ d_Reader_readOr_37 rfl ?_
      refine X_iinc d_Reader_readOr_40 rfl (v := (nI i) + 1) rfl (by decide) [1, 2, 0] (L' := [(0, .ref (xg G 11)), (1, .ref (xg G t)), (2, .int ((nI i) + 1))]) rfl ?_
      refine X_goto (tgt := 7) d_Reader_readOr_43 (by decide) ?_
      have hlt : i < 160 := nI_more hi (by decide) c_1
      have hz : 160 - i = (160 - (i + 1)) + 1 := by omega
      have key := ih hlt _ (pOK_add_z (hS.2 _ (pOK_adv h)) hs 20000)
      unfold Q_Reader_readOr_z at key
      rw [hz, iLop, if_pos c_2, nI_1]
      exact key
theorem k_Reader_readOr_z (l : Launch) (G : xG) {n o t h : Nat} (hs : tSh_z t) (ho5 : o ≤ 5) {sub : xI → xI} (hS : cF_z l G h y_Reader_readAnd b_Reader_readAnd 3 n o t sub) (h3 : 3 ≤ h) : cF_z l G (h + 1) y_Reader_readOr b_Reader_readOr 3 n o t (iLev sub t 131 20000) := by
  refine ⟨fun d nn I hd h => ?_, fun I h => pOK_lop_z hs hS.2 _ _ 160 _ (hS.2 _ h)⟩
  refine XM.of (by decide) (Nat.le_of_ble_eq_true rfl) (L := [(0, .ref (xg G 11)), (1, .ref (xg G t))]) rfl ?_
  refine X_aload_n d_Reader_readOr_0 rfl rfl ?_
  refine X_aload_n d_Reader_readOr_1 rfl rfl ?_
  refine X_callVv (rest := []) (hS.1 _ nn I (by omega) h) lk_Reader_readAnd ml_Reader_80 (xm_obj (show xYc 11 = some (sReader 12 13) from rfl)) rfl rfl (Nat.le_of_ble_eq_true rfl) (xRok (d' := d - 1) (by omega) (by decide)) ⟨Nat.le_refl _, Nat.le_refl _⟩ d_Reader_readOr_2 rfl ?_
  refine X_iconst (v := 0) d_Reader_readOr_5 rfl ?_
  refine X_istore_n d_Reader_readOr_6 rfl (by decide) [1, 2, 0] (L' := [(0, .ref (xg G 11)), (1, .ref (xg G t)), (2, .int 0)]) rfl ?_
  have hx := xloop (Q := fun i => ∀ I, pOK n o I → Q_Reader_readOr_z l G d nn t sub i I) (T := 160) (fun i hi ih => w_Reader_readOr_z l G nn hs ho5 hS h3 hd i hi ih) 0 (Nat.zero_le _) _ (hS.2 _ h)
  unfold Q_Reader_readOr_z at hx
  exact hx

theorem pOK_not_z {n o t : Nat} (hs : tSh_z t) (ho : o ≤ 5) {nt sum : xI → xI} (hN : o < 5 → ∀ I, pOK n (o + 1) I → pOK n (o + 1) (nt I)) (hS : ∀ I, pOK n o I → pOK n o (sum I)) (I : xI) (h : pOK n o I) : pOK n o (iNot nt sum t I) := by
  unfold iNot
  split
  · split
    · exact pOK_fail h
    · rename_i c
      exact pOK_add_z (pOK_dec (hN (pOK_lt h ho c) _ (pOK_adv (pOK_inc h)))) hs _
  · split
    · exact pOK_add_z (hS _ (pOK_adv (hS _ h))) hs _
    · exact hS _ h
theorem pOK_one_z {n o t : Nat} (hs : tSh_z t) (ho : o ≤ 5) {one orr : xI → xI} (hO : o < 5 → ∀ I, pOK n (o + 1) I → pOK n (o + 1) (one I)) (hR : o < 5 → ∀ I, pOK n (o + 1) I → pOK n (o + 1) (orr I)) (I : xI) (h : pOK n o I) : pOK n o (iOne one orr t I) := by
  unfold iOne
  split
  · exact h
  · split
    · exact pOK_adv (pOK_add_z h hs _)
    · split
      · exact pOK_adv (pOK_add_z h hs _)
      · split
        · split
          · exact pOK_fail h
          · rename_i c
            exact pOK_add_z (pOK_dec (hO (pOK_lt h ho c) _ (pOK_adv (pOK_inc h)))) hs _
        · split
          · split
            · exact pOK_fail h
            · rename_i c
              exact pOK_exp (pOK_dec (hR (pOK_lt h ho c) _ (pOK_adv (pOK_inc h)))) _
          · exact pOK_fail h
theorem k_Reader_readNot_z (l : Launch) (G : xG) {n o t h h' H : Nat} (hs : tSh_z t) (ho5 : o ≤ 5) {nt sum : xI → xI} (hN : o < 5 → cF_z l G h' y_Reader_readNot b_Reader_readNot 3 n (o + 1) t nt) (hS : cF_z l G h y_Reader_readSum b_Reader_readSum 4 n o t sum) (h5 : 5 ≤ H) (hh : h + 1 ≤ H) (hh' : h' + 1 ≤ H) : cF_z l G H y_Reader_readNot b_Reader_readNot 3 n o t (iNot nt sum t) := by
  refine ⟨fun d nn I hd h => ?_, pOK_not_z hs ho5 (fun q => (hN q).2) hS.2⟩
  refine XM.of (by decide) (Nat.le_of_ble_eq_true rfl) (L := [(0, .ref (xg G 11)), (1, .ref (xg G t))]) rfl ?_
  refine X_aload_n d_Reader_readNot_0 rfl rfl ?_
  refine X_sipush (v := 133) d_Reader_readNot_1 rfl ?_
  refine X_callV (v := .int (xb (bAt 133 I))) (rest := []) (k_Reader_at_z l G nn (by omega) I 133) lk_Reader_at ml_Reader_83 (xm_obj (show xYc 11 = some (sReader 12 13) from rfl)) rfl rfl (Nat.le_of_ble_eq_true rfl) (xRok (d' := d - 1) (by omega) (by decide)) ⟨Nat.le_refl _, Nat.le_refl _⟩ d_Reader_readNot_4 rfl ?_
  refine X_ifb_eq (tgt := 40) d_Reader_readNot_7 (by decide) (fun c_1 => ?_) (fun c_1 => ?_)
  ·
    refine X_aload_n d_Reader_readNot_40 rfl rfl ?_
    refine X_aload_n d_Reader_readNot_41 rfl rfl ?_
    refine X_callVv (rest := []) (hS.1 _ nn I (by omega) h) lk_Reader_readSum ml_Reader_96 (xm_obj (show xYc 11 = some (sReader 12 13) from rfl)) rfl rfl (Nat.le_of_ble_eq_true rfl) (xRok (d' := d - 1) (by omega) (by decide)) ⟨Nat.le_refl _, Nat.le_refl _⟩ d_Reader_readNot_42 rfl ?_
    refine X_aload_n d_Reader_readNot_45 rfl rfl ?_
    refine X_bipush (v := 60) d_Reader_readNot_46 rfl ?_
    refine X_callV (v := .int (xb (bAt 60 (sum I)))) (rest := []) (k_Reader_at_z l G nn (by omega) (sum I) 60) lk_Reader_at ml_Reader_83 (xm_obj (show xYc 11 = some (sReader 12 13) from rfl)) rfl rfl (Nat.le_of_ble_eq_true rfl) (xRok (d' := d - 1) (by omega) (by decide)) ⟨Nat.le_refl _, Nat.le_refl _⟩ d_Reader_readNot_48 rfl ?_
    refine X_ifb_ne (tgt := 63) d_Reader_readNot_51 (by decide) (fun c_2 => ?_) (fun c_2 => ?_)
    ·
      refine X_aload_n d_Reader_readNot_63 rfl rfl ?_
      refine X_getI (v := (sum I) 11 5) fg_Reader_74 (show xYc 11 = some (sReader 12 13) from rfl) rfl (rfl) d_Reader_readNot_64 ?_
      refine X_bipush (v := 60) d_Reader_readNot_67 rfl ?_
      refine X_icmp_ne (tgt := 78) d_Reader_readNot_69 (by decide) (fun c_3 => ?_) (fun c_3 => ?_)
      ·
        refine X_sipush (v := 20003) d_Reader_readNot_78 rfl ?_
        refine X_istore_n d_Reader_readNot_81 rfl (by decide) [1, 2, 0] (L' := [(0, .ref (xg G 11)), (1, .ref (xg G t)), (2, .int 20003)]) rfl ?_
        refine X_aload_n d_Reader_readNot_82 rfl rfl ?_
        refine X_callVv (rest := []) (k_Reader_advance_z l G nn (by omega) (sum I)  (hS.2 _ h)) lk_Reader_advance ml_Reader_53 (xm_obj (show xYc 11 = some (sReader 12 13) from rfl)) rfl rfl (Nat.le_of_ble_eq_true rfl) (xRok (d' := d - 1) (by omega) (by decide)) ⟨Nat.le_refl _, Nat.le_refl _⟩ d_Reader_readNot_83 rfl ?_
        refine X_aload_n d_Reader_readNot_86 rfl rfl ?_
        refine X_aload_n d_Reader_readNot_87 rfl rfl ?_
        refine X_callVv (rest := []) (hS.1 _ nn (iAdv (sum I)) (by omega) (pOK_adv (hS.2 _ h))) lk_Reader_readSum ml_Reader_96 (xm_obj (show xYc 11 = some (sReader 12 13) from rfl)) rfl rfl (Nat.le_of_ble_eq_true rfl) (xRok (d' := d - 1) (by omega) (by decide)) ⟨Nat.le_refl _, Nat.le_refl _⟩ d_Reader_readNot_88 rfl ?_
        refine X_aload_n d_Reader_readNot_91 rfl rfl ?_
        refine X_iload_n d_Reader_readNot_92 rfl rfl ?_
        refine X_callVv (rest := []) (k_Text_add_z l G nn (by omega) t hs (sum (iAdv (sum I))) 20003) lk_Text_add ml_Reader_87 (xm_obj hs.1) rfl rfl (Nat.le_of_ble_eq_true rfl) (xRok (d' := d - 1) (by omega) (by decide)) ⟨Nat.le_refl _, Nat.le_refl _⟩ d_Reader_readNot_93 rfl ?_
        exact X_vret rfl rfl (xle_of (congrArg (xm G xYc) (by first | (simp [iNot, c_1, c_2, c_3]; done) | (unfold iNot; grind)))) d_Reader_readNot_96
      ·
        refine X_sipush (v := 20002) d_Reader_readNot_72 rfl ?_
        refine X_goto (tgt := 81) d_Reader_readNot_75 (by decide) ?_
        refine X_istore_n d_Reader_readNot_81 rfl (by decide) [1, 2, 0] (L' := [(0, .ref (xg G 11)), (1, .ref (xg G t)), (2, .int 20002)]) rfl ?_
        refine X_aload_n d_Reader_readNot_82 rfl rfl ?_
        refine X_callVv (rest := []) (k_Reader_advance_z l G nn (by omega) (sum I)  (hS.2 _ h)) lk_Reader_advance ml_Reader_53 (xm_obj (show xYc 11 = some (sReader 12 13) from rfl)) rfl rfl (Nat.le_of_ble_eq_true rfl) (xRok (d' := d - 1) (by omega) (by decide)) ⟨Nat.le_refl _, Nat.le_refl _⟩ d_Reader_readNot_83 rfl ?_
        refine X_aload_n d_Reader_readNot_86 rfl rfl ?_
        refine X_aload_n d_Reader_readNot_87 rfl rfl ?_
        refine X_callVv (rest := []) (hS.1 _ nn (iAdv (sum I)) (by omega) (pOK_adv (hS.2 _ h))) lk_Reader_readSum ml_Reader_96 (xm_obj (show xYc 11 = some (sReader 12 13) from rfl)) rfl rfl (Nat.le_of_ble_eq_true rfl) (xRok (d' := d - 1) (by omega) (by decide)) ⟨Nat.le_refl _, Nat.le_refl _⟩ d_Reader_readNot_88 rfl ?_
        refine X_aload_n d_Reader_readNot_91 rfl rfl ?_
        refine X_iload_n d_Reader_readNot_92 rfl rfl ?_
        refine X_callVv (rest := []) (k_Text_add_z l G nn (by omega) t hs (sum (iAdv (sum I))) 20002) lk_Text_add ml_Reader_87 (xm_obj hs.1) rfl rfl (Nat.le_of_ble_eq_true rfl) (xRok (d' := d - 1) (by omega) (by decide)) ⟨Nat.le_refl _, Nat.le_refl _⟩ d_Reader_readNot_93 rfl ?_
        exact X_vret rfl rfl (xle_of (congrArg (xm G xYc) (by first | (simp [iNot, c_1, c_2, c_3]; done) | (unfold iNot; grind)))) d_Reader_readNot_96
    ·
      refine X_aload_n d_Reader_readNot_54 rfl rfl ?_
      refine X_bipush (v := 61) d_Reader_readNot_55 rfl ?_
      refine X_callV (v := .int (xb (bAt 61 (sum I)))) (rest := []) (k_Reader_at_z l G nn (by omega) (sum I) 61) lk_Reader_at ml_Reader_83 (xm_obj (show xYc 11 = some (sReader 12 13) from rfl)) rfl rfl (Nat.le_of_ble_eq_true rfl) (xRok (d' := d - 1) (by omega) (by decide)) ⟨Nat.le_refl _, Nat.le_refl _⟩ d_Reader_readNot_57 rfl ?_
      refine X_ifb_eq (tgt := 96) d_Reader_readNot_60 (by decide) (fun c_4 => ?_) (fun c_4 => ?_)
      ·
        exact X_vret rfl rfl (xle_of (congrArg (xm G xYc) (by first | (simp [iNot, c_1, c_2, c_4]; done) | (unfold iNot; grind)))) d_Reader_readNot_96
      ·
        refine X_aload_n d_Reader_readNot_63 rfl rfl ?_
        refine X_getI (v := (sum I) 11 5) fg_Reader_74 (show xYc 11 = some (sReader 12 13) from rfl) rfl (rfl) d_Reader_readNot_64 ?_
        refine X_bipush (v := 60) d_Reader_readNot_67 rfl ?_
        refine X_icmp_ne (tgt := 78) d_Reader_readNot_69 (by decide) (fun c_5 => ?_) (fun c_5 => ?_)
        ·
          refine X_sipush (v := 20003) d_Reader_readNot_78 rfl ?_
          refine X_istore_n d_Reader_readNot_81 rfl (by decide) [1, 2, 0] (L' := [(0, .ref (xg G 11)), (1, .ref (xg G t)), (2, .int 20003)]) rfl ?_
          refine X_aload_n d_Reader_readNot_82 rfl rfl ?_
          refine X_callVv (rest := []) (k_Reader_advance_z l G nn (by omega) (sum I)  (hS.2 _ h)) lk_Reader_advance ml_Reader_53 (xm_obj (show xYc 11 = some (sReader 12 13) from rfl)) rfl rfl (Nat.le_of_ble_eq_true rfl) (xRok (d' := d - 1) (by omega) (by decide)) ⟨Nat.le_refl _, Nat.le_refl _⟩ d_Reader_readNot_83 rfl ?_
          refine X_aload_n d_Reader_readNot_86 rfl rfl ?_
          refine X_aload_n d_Reader_readNot_87 rfl rfl ?_
          refine X_callVv (rest := []) (hS.1 _ nn (iAdv (sum I)) (by omega) (pOK_adv (hS.2 _ h))) lk_Reader_readSum ml_Reader_96 (xm_obj (show xYc 11 = some (sReader 12 13) from rfl)) rfl rfl (Nat.le_of_ble_eq_true rfl) (xRok (d' := d - 1) (by omega) (by decide)) ⟨Nat.le_refl _, Nat.le_refl _⟩ d_Reader_readNot_88 rfl ?_
          refine X_aload_n d_Reader_readNot_91 rfl rfl ?_
          refine X_iload_n d_Reader_readNot_92 rfl rfl ?_
          refine X_callVv (rest := []) (k_Text_add_z l G nn (by omega) t hs (sum (iAdv (sum I))) 20003) lk_Text_add ml_Reader_87 (xm_obj hs.1) rfl rfl (Nat.le_of_ble_eq_true rfl) (xRok (d' := d - 1) (by omega) (by decide)) ⟨Nat.le_refl _, Nat.le_refl _⟩ d_Reader_readNot_93 rfl ?_
          exact X_vret rfl rfl (xle_of (congrArg (xm G xYc) (by first | (simp [iNot, c_1, c_2, c_4, c_5]; done) | (unfold iNot; grind)))) d_Reader_readNot_96
        ·
          refine X_sipush (v := 20002) d_Reader_readNot_72 rfl ?_
          refine X_goto (tgt := 81) d_Reader_readNot_75 (by decide) ?_
          refine X_istore_n d_Reader_readNot_81 rfl (by decide) [1, 2, 0] (L' := [(0, .ref (xg G 11)), (1, .ref (xg G t)), (2, .int 20002)]) rfl ?_
          refine X_aload_n d_Reader_readNot_82 rfl rfl ?_
          refine X_callVv (rest := []) (k_Reader_advance_z l G nn (by omega) (sum I)  (hS.2 _ h)) lk_Reader_advance ml_Reader_53 (xm_obj (show xYc 11 = some (sReader 12 13) from rfl)) rfl rfl (Nat.le_of_ble_eq_true rfl) (xRok (d' := d - 1) (by omega) (by decide)) ⟨Nat.le_refl _, Nat.le_refl _⟩ d_Reader_readNot_83 rfl ?_
          refine X_aload_n d_Reader_readNot_86 rfl rfl ?_
          refine X_aload_n d_Reader_readNot_87 rfl rfl ?_
          refine X_callVv (rest := []) (hS.1 _ nn (iAdv (sum I)) (by omega) (pOK_adv (hS.2 _ h))) lk_Reader_readSum ml_Reader_96 (xm_obj (show xYc 11 = some (sReader 12 13) from rfl)) rfl rfl (Nat.le_of_ble_eq_true rfl) (xRok (d' := d - 1) (by omega) (by decide)) ⟨Nat.le_refl _, Nat.le_refl _⟩ d_Reader_readNot_88 rfl ?_
          refine X_aload_n d_Reader_readNot_91 rfl rfl ?_
          refine X_iload_n d_Reader_readNot_92 rfl rfl ?_
          refine X_callVv (rest := []) (k_Text_add_z l G nn (by omega) t hs (sum (iAdv (sum I))) 20002) lk_Text_add ml_Reader_87 (xm_obj hs.1) rfl rfl (Nat.le_of_ble_eq_true rfl) (xRok (d' := d - 1) (by omega) (by decide)) ⟨Nat.le_refl _, Nat.le_refl _⟩ d_Reader_readNot_93 rfl ?_
          exact X_vret rfl rfl (xle_of (congrArg (xm G xYc) (by first | (simp [iNot, c_1, c_2, c_4, c_5]; done) | (unfold iNot; grind)))) d_Reader_readNot_96
  ·
    refine X_aload_n d_Reader_readNot_10 rfl rfl ?_
    refine X_callV (v := .int (xb (decide (I 11 7 < 5)))) (rest := []) (k_Reader_opened_z l G nn (by omega) I  h) lk_Reader_opened ml_Reader_93 (xm_obj (show xYc 11 = some (sReader 12 13) from rfl)) rfl rfl (Nat.le_of_ble_eq_true rfl) (xRok (d' := d - 1) (by omega) (by decide)) ⟨Nat.le_refl _, Nat.le_refl _⟩ d_Reader_readNot_11 rfl ?_
    refine X_ifb_eq (tgt := 39) d_Reader_readNot_14 (by decide) (fun c_6 => ?_) (fun c_6 => ?_)
    ·
      have e_7 : iOpn I = iFail I := if_pos (Int32.not_lt.mp (of_decide_eq_false c_6))
      rw [e_7]
      exact X_vret rfl rfl (xle_of (congrArg (xm G xYc) (by first | (simp [iNot, c_1, of_decide_eq_false c_6, Int32.not_lt.mp (of_decide_eq_false c_6)]; done) | (unfold iNot; grind)))) d_Reader_readNot_39
    ·
      have e_8 : iOpn I = iAdv (iInc I) := if_neg (Int32.not_le.mpr (of_decide_eq_true c_6))
      have ho : o < 5 := pOK_o5 h (of_decide_eq_true c_6)
      rw [e_8]
      refine X_aload_n d_Reader_readNot_17 rfl rfl ?_
      refine X_aload_n d_Reader_readNot_18 rfl rfl ?_
      refine X_callVv (rest := []) ((hN ho).1 _ nn (iAdv (iInc I)) (by omega) (pOK_adv (pOK_inc h))) lk_Reader_readNot ml_Reader_90 (xm_obj (show xYc 11 = some (sReader 12 13) from rfl)) rfl rfl (Nat.le_of_ble_eq_true rfl) (xRok (d' := d - 1) (by omega) (by decide)) ⟨Nat.le_refl _, Nat.le_refl _⟩ d_Reader_readNot_19 rfl ?_
      refine X_aload_n d_Reader_readNot_22 rfl rfl ?_
      refine X_dup d_Reader_readNot_23 rfl ?_
      refine X_getI (v := (nt (iAdv (iInc I))) 11 7) fg_Reader_47 (show xYc 11 = some (sReader 12 13) from rfl) rfl (rfl) d_Reader_readNot_24 ?_
      refine X_iconst (v := 1) d_Reader_readNot_27 rfl ?_
      refine X_isub d_Reader_readNot_28 ?_
      refine X_putI fp_Reader_47 (show xYc 11 = some (sReader 12 13) from rfl) rfl d_Reader_readNot_29 ?_
      refine X_aload_n d_Reader_readNot_32 rfl rfl ?_
      refine X_sipush (v := 30000) d_Reader_readNot_33 rfl ?_
      refine X_callVv (rest := []) (k_Text_add_z l G nn (by omega) t hs (iDec (nt (iAdv (iInc I)))) 30000) lk_Text_add ml_Reader_87 (xm_obj hs.1) rfl rfl (Nat.le_of_ble_eq_true rfl) (xRok (d' := d - 1) (by omega) (by decide)) ⟨Nat.le_refl _, Nat.le_refl _⟩ d_Reader_readNot_36 rfl ?_
      exact X_vret rfl rfl (xle_of (congrArg (xm G xYc) (by first | (simp [iNot, c_1, of_decide_eq_true c_6, Int32.not_le.mpr (of_decide_eq_true c_6)]; done) | (unfold iNot; grind)))) d_Reader_readNot_39
theorem k_Reader_readOne_z (l : Launch) (G : xG) {n o t h h' H : Nat} (hs : tSh_z t) (ho5 : o ≤ 5) {one orr : xI → xI} (hO : o < 5 → cF_z l G h y_Reader_readOne b_Reader_readOne 2 n (o + 1) t one) (hR : o < 5 → cF_z l G h' y_Reader_readOr b_Reader_readOr 3 n (o + 1) t orr) (h5 : 5 ≤ H) (hh : h + 1 ≤ H) (hh' : h' + 1 ≤ H) : cF_z l G H y_Reader_readOne b_Reader_readOne 2 n o t (iOne one orr t) := by
  refine ⟨fun d nn I hd h => ?_, pOK_one_z hs ho5 (fun q => (hO q).2) (fun q => (hR q).2)⟩
  refine XM.of (by decide) (Nat.le_of_ble_eq_true rfl) (L := [(0, .ref (xg G 11)), (1, .ref (xg G t))]) rfl ?_
  refine X_aload_n d_Reader_readOne_0 rfl rfl ?_
  refine X_callV (v := .int (xb (decide (0 ≤ I 11 8)))) (rest := []) (k_Reader_failed_z l G nn (by omega) I ) lk_Reader_failed ml_Reader_67 (xm_obj (show xYc 11 = some (sReader 12 13) from rfl)) rfl rfl (Nat.le_of_ble_eq_true rfl) (xRok (d' := d - 1) (by omega) (by decide)) ⟨Nat.le_refl _, Nat.le_refl _⟩ d_Reader_readOne_1 rfl ?_
  refine X_ifb_eq (tgt := 8) d_Reader_readOne_4 (by decide) (fun c_1 => ?_) (fun c_1 => ?_)
  ·
    refine X_aload_n d_Reader_readOne_8 rfl rfl ?_
    refine X_getI (v := I 11 5) fg_Reader_74 (show xYc 11 = some (sReader 12 13) from rfl) rfl (rfl) d_Reader_readOne_9 ?_
    refine X_iconst (v := 1) d_Reader_readOne_12 rfl ?_
    refine X_icmp_ne (tgt := 31) d_Reader_readOne_13 (by decide) (fun c_2 => ?_) (fun c_2 => ?_)
    ·
      refine X_aload_n d_Reader_readOne_31 rfl rfl ?_
      refine X_getI (v := I 11 5) fg_Reader_74 (show xYc 11 = some (sReader 12 13) from rfl) rfl (rfl) d_Reader_readOne_32 ?_
      refine X_sipush (v := 134) d_Reader_readOne_35 rfl ?_
      refine X_icmp_lt (tgt := 74) d_Reader_readOne_38 (by decide) (fun c_3 => ?_) (fun c_3 => ?_)
      ·
        refine X_aload_n d_Reader_readOne_74 rfl rfl ?_
        refine X_getI (v := I 11 5) fg_Reader_74 (show xYc 11 = some (sReader 12 13) from rfl) rfl (rfl) d_Reader_readOne_75 ?_
        refine X_bipush (v := 45) d_Reader_readOne_78 rfl ?_
        refine X_icmp_ne (tgt := 115) d_Reader_readOne_80 (by decide) (fun c_4 => ?_) (fun c_4 => ?_)
        ·
          refine X_aload_n d_Reader_readOne_115 rfl rfl ?_
          refine X_getI (v := I 11 5) fg_Reader_74 (show xYc 11 = some (sReader 12 13) from rfl) rfl (rfl) d_Reader_readOne_116 ?_
          refine X_bipush (v := 40) d_Reader_readOne_119 rfl ?_
          refine X_icmp_ne (tgt := 155) d_Reader_readOne_121 (by decide) (fun c_5 => ?_) (fun c_5 => ?_)
          ·
            refine X_aload_n d_Reader_readOne_155 rfl rfl ?_
            refine X_callVv (rest := []) (k_Reader_fail_z l G nn (by omega) I ) lk_Reader_fail ml_Reader_77 (xm_obj (show xYc 11 = some (sReader 12 13) from rfl)) rfl rfl (Nat.le_of_ble_eq_true rfl) (xRok (d' := d - 1) (by omega) (by decide)) ⟨Nat.le_refl _, Nat.le_refl _⟩ d_Reader_readOne_156 rfl ?_
            exact X_vret rfl rfl (xle_of (congrArg (xm G xYc) (by first | (simp [iOne, c_1, c_2, c_3, Int32.not_le.mpr c_3, c_4, c_5]; done) | (unfold iOne; grind)))) d_Reader_readOne_159
          ·
            refine X_aload_n d_Reader_readOne_124 rfl rfl ?_
            refine X_callV (v := .int (xb (decide (I 11 7 < 5)))) (rest := []) (k_Reader_opened_z l G nn (by omega) I  h) lk_Reader_opened ml_Reader_93 (xm_obj (show xYc 11 = some (sReader 12 13) from rfl)) rfl rfl (Nat.le_of_ble_eq_true rfl) (xRok (d' := d - 1) (by omega) (by decide)) ⟨Nat.le_refl _, Nat.le_refl _⟩ d_Reader_readOne_125 rfl ?_
            refine X_ifb_eq (tgt := 159) d_Reader_readOne_128 (by decide) (fun c_6 => ?_) (fun c_6 => ?_)
            ·
              have e_7 : iOpn I = iFail I := if_pos (Int32.not_lt.mp (of_decide_eq_false c_6))
              rw [e_7]
              exact X_vret rfl rfl (xle_of (congrArg (xm G xYc) (by first | (simp [iOne, c_1, c_2, c_3, Int32.not_le.mpr c_3, c_4, c_5, of_decide_eq_false c_6, Int32.not_lt.mp (of_decide_eq_false c_6)]; done) | (unfold iOne; grind)))) d_Reader_readOne_159
            ·
              have e_8 : iOpn I = iAdv (iInc I) := if_neg (Int32.not_le.mpr (of_decide_eq_true c_6))
              have ho : o < 5 := pOK_o5 h (of_decide_eq_true c_6)
              rw [e_8]
              refine X_aload_n d_Reader_readOne_131 rfl rfl ?_
              refine X_aload_n d_Reader_readOne_132 rfl rfl ?_
              refine X_callVv (rest := []) ((hR ho).1 _ nn (iAdv (iInc I)) (by omega) (pOK_adv (pOK_inc h))) lk_Reader_readOr ml_Reader_60 (xm_obj (show xYc 11 = some (sReader 12 13) from rfl)) rfl rfl (Nat.le_of_ble_eq_true rfl) (xRok (d' := d - 1) (by omega) (by decide)) ⟨Nat.le_refl _, Nat.le_refl _⟩ d_Reader_readOne_133 rfl ?_
              refine X_aload_n d_Reader_readOne_136 rfl rfl ?_
              refine X_dup d_Reader_readOne_137 rfl ?_
              refine X_getI (v := (orr (iAdv (iInc I))) 11 7) fg_Reader_47 (show xYc 11 = some (sReader 12 13) from rfl) rfl (rfl) d_Reader_readOne_138 ?_
              refine X_iconst (v := 1) d_Reader_readOne_141 rfl ?_
              refine X_isub d_Reader_readOne_142 ?_
              refine X_putI fp_Reader_47 (show xYc 11 = some (sReader 12 13) from rfl) rfl d_Reader_readOne_143 ?_
              refine X_aload_n d_Reader_readOne_146 rfl rfl ?_
              refine X_bipush (v := 41) d_Reader_readOne_147 rfl ?_
              refine X_callVv (rest := []) (k_Reader_expect_z l G nn (by omega) (iDec (orr (iAdv (iInc I)))) 41 (pOK_dec ((hR ho).2 _ (pOK_adv (pOK_inc h))))) lk_Reader_expect ml_Reader_56 (xm_obj (show xYc 11 = some (sReader 12 13) from rfl)) rfl rfl (Nat.le_of_ble_eq_true rfl) (xRok (d' := d - 1) (by omega) (by decide)) ⟨Nat.le_refl _, Nat.le_refl _⟩ d_Reader_readOne_149 rfl ?_
              refine X_goto (tgt := 159) d_Reader_readOne_152 (by decide) ?_
              exact X_vret rfl rfl (xle_of (congrArg (xm G xYc) (by first | (simp [iOne, c_1, c_2, c_3, Int32.not_le.mpr c_3, c_4, c_5, of_decide_eq_true c_6, Int32.not_le.mpr (of_decide_eq_true c_6)]; done) | (unfold iOne; grind)))) d_Reader_readOne_159
        ·
          refine X_aload_n d_Reader_readOne_83 rfl rfl ?_
          refine X_callV (v := .int (xb (decide (I 11 7 < 5)))) (rest := []) (k_Reader_opened_z l G nn (by omega) I  h) lk_Reader_opened ml_Reader_93 (xm_obj (show xYc 11 = some (sReader 12 13) from rfl)) rfl rfl (Nat.le_of_ble_eq_true rfl) (xRok (d' := d - 1) (by omega) (by decide)) ⟨Nat.le_refl _, Nat.le_refl _⟩ d_Reader_readOne_84 rfl ?_
          refine X_ifb_eq (tgt := 159) d_Reader_readOne_87 (by decide) (fun c_9 => ?_) (fun c_9 => ?_)
          ·
            have e_10 : iOpn I = iFail I := if_pos (Int32.not_lt.mp (of_decide_eq_false c_9))
            rw [e_10]
            exact X_vret rfl rfl (xle_of (congrArg (xm G xYc) (by first | (simp [iOne, c_1, c_2, c_3, Int32.not_le.mpr c_3, c_4, of_decide_eq_false c_9, Int32.not_lt.mp (of_decide_eq_false c_9)]; done) | (unfold iOne; grind)))) d_Reader_readOne_159
          ·
            have e_11 : iOpn I = iAdv (iInc I) := if_neg (Int32.not_le.mpr (of_decide_eq_true c_9))
            have ho : o < 5 := pOK_o5 h (of_decide_eq_true c_9)
            rw [e_11]
            refine X_aload_n d_Reader_readOne_90 rfl rfl ?_
            refine X_aload_n d_Reader_readOne_91 rfl rfl ?_
            refine X_callVv (rest := []) ((hO ho).1 _ nn (iAdv (iInc I)) (by omega) (pOK_adv (pOK_inc h))) lk_Reader_readOne ml_Reader_102 (xm_obj (show xYc 11 = some (sReader 12 13) from rfl)) rfl rfl (Nat.le_of_ble_eq_true rfl) (xRok (d' := d - 1) (by omega) (by decide)) ⟨Nat.le_refl _, Nat.le_refl _⟩ d_Reader_readOne_92 rfl ?_
            refine X_aload_n d_Reader_readOne_95 rfl rfl ?_
            refine X_dup d_Reader_readOne_96 rfl ?_
            refine X_getI (v := (one (iAdv (iInc I))) 11 7) fg_Reader_47 (show xYc 11 = some (sReader 12 13) from rfl) rfl (rfl) d_Reader_readOne_97 ?_
            refine X_iconst (v := 1) d_Reader_readOne_100 rfl ?_
            refine X_isub d_Reader_readOne_101 ?_
            refine X_putI fp_Reader_47 (show xYc 11 = some (sReader 12 13) from rfl) rfl d_Reader_readOne_102 ?_
            refine X_aload_n d_Reader_readOne_105 rfl rfl ?_
            refine X_sipush (v := 30001) d_Reader_readOne_106 rfl ?_
            refine X_callVv (rest := []) (k_Text_add_z l G nn (by omega) t hs (iDec (one (iAdv (iInc I)))) 30001) lk_Text_add ml_Reader_87 (xm_obj hs.1) rfl rfl (Nat.le_of_ble_eq_true rfl) (xRok (d' := d - 1) (by omega) (by decide)) ⟨Nat.le_refl _, Nat.le_refl _⟩ d_Reader_readOne_109 rfl ?_
            refine X_goto (tgt := 159) d_Reader_readOne_112 (by decide) ?_
            exact X_vret rfl rfl (xle_of (congrArg (xm G xYc) (by first | (simp [iOne, c_1, c_2, c_3, Int32.not_le.mpr c_3, c_4, of_decide_eq_true c_9, Int32.not_le.mpr (of_decide_eq_true c_9)]; done) | (unfold iOne; grind)))) d_Reader_readOne_159
      ·
        refine X_aload_n d_Reader_readOne_41 rfl rfl ?_
        refine X_getI (v := I 11 5) fg_Reader_74 (show xYc 11 = some (sReader 12 13) from rfl) rfl (rfl) d_Reader_readOne_42 ?_
        refine X_sipush (v := 139) d_Reader_readOne_45 rfl ?_
        refine X_icmp_gt (tgt := 74) d_Reader_readOne_48 (by decide) (fun c_12 => ?_) (fun c_12 => ?_)
        ·
          refine X_aload_n d_Reader_readOne_74 rfl rfl ?_
          refine X_getI (v := I 11 5) fg_Reader_74 (show xYc 11 = some (sReader 12 13) from rfl) rfl (rfl) d_Reader_readOne_75 ?_
          refine X_bipush (v := 45) d_Reader_readOne_78 rfl ?_
          refine X_icmp_ne (tgt := 115) d_Reader_readOne_80 (by decide) (fun c_13 => ?_) (fun c_13 => ?_)
          ·
            refine X_aload_n d_Reader_readOne_115 rfl rfl ?_
            refine X_getI (v := I 11 5) fg_Reader_74 (show xYc 11 = some (sReader 12 13) from rfl) rfl (rfl) d_Reader_readOne_116 ?_
            refine X_bipush (v := 40) d_Reader_readOne_119 rfl ?_
            refine X_icmp_ne (tgt := 155) d_Reader_readOne_121 (by decide) (fun c_14 => ?_) (fun c_14 => ?_)
            ·
              refine X_aload_n d_Reader_readOne_155 rfl rfl ?_
              refine X_callVv (rest := []) (k_Reader_fail_z l G nn (by omega) I ) lk_Reader_fail ml_Reader_77 (xm_obj (show xYc 11 = some (sReader 12 13) from rfl)) rfl rfl (Nat.le_of_ble_eq_true rfl) (xRok (d' := d - 1) (by omega) (by decide)) ⟨Nat.le_refl _, Nat.le_refl _⟩ d_Reader_readOne_156 rfl ?_
              exact X_vret rfl rfl (xle_of (congrArg (xm G xYc) (by first | (simp [iOne, c_1, c_2, c_3, Int32.not_lt.mp c_3, c_12, Int32.not_le.mpr c_12, c_13, c_14]; done) | (unfold iOne; grind)))) d_Reader_readOne_159
            ·
              refine X_aload_n d_Reader_readOne_124 rfl rfl ?_
              refine X_callV (v := .int (xb (decide (I 11 7 < 5)))) (rest := []) (k_Reader_opened_z l G nn (by omega) I  h) lk_Reader_opened ml_Reader_93 (xm_obj (show xYc 11 = some (sReader 12 13) from rfl)) rfl rfl (Nat.le_of_ble_eq_true rfl) (xRok (d' := d - 1) (by omega) (by decide)) ⟨Nat.le_refl _, Nat.le_refl _⟩ d_Reader_readOne_125 rfl ?_
              refine X_ifb_eq (tgt := 159) d_Reader_readOne_128 (by decide) (fun c_15 => ?_) (fun c_15 => ?_)
              ·
                have e_16 : iOpn I = iFail I := if_pos (Int32.not_lt.mp (of_decide_eq_false c_15))
                rw [e_16]
                exact X_vret rfl rfl (xle_of (congrArg (xm G xYc) (by first | (simp [iOne, c_1, c_2, c_3, Int32.not_lt.mp c_3, c_12, Int32.not_le.mpr c_12, c_13, c_14, of_decide_eq_false c_15, Int32.not_lt.mp (of_decide_eq_false c_15)]; done) | (unfold iOne; grind)))) d_Reader_readOne_159
              ·
                have e_17 : iOpn I = iAdv (iInc I) := if_neg (Int32.not_le.mpr (of_decide_eq_true c_15))
                have ho : o < 5 := pOK_o5 h (of_decide_eq_true c_15)
                rw [e_17]
                refine X_aload_n d_Reader_readOne_131 rfl rfl ?_
                refine X_aload_n d_Reader_readOne_132 rfl rfl ?_
                refine X_callVv (rest := []) ((hR ho).1 _ nn (iAdv (iInc I)) (by omega) (pOK_adv (pOK_inc h))) lk_Reader_readOr ml_Reader_60 (xm_obj (show xYc 11 = some (sReader 12 13) from rfl)) rfl rfl (Nat.le_of_ble_eq_true rfl) (xRok (d' := d - 1) (by omega) (by decide)) ⟨Nat.le_refl _, Nat.le_refl _⟩ d_Reader_readOne_133 rfl ?_
                refine X_aload_n d_Reader_readOne_136 rfl rfl ?_
                refine X_dup d_Reader_readOne_137 rfl ?_
                refine X_getI (v := (orr (iAdv (iInc I))) 11 7) fg_Reader_47 (show xYc 11 = some (sReader 12 13) from rfl) rfl (rfl) d_Reader_readOne_138 ?_
                refine X_iconst (v := 1) d_Reader_readOne_141 rfl ?_
                refine X_isub d_Reader_readOne_142 ?_
                refine X_putI fp_Reader_47 (show xYc 11 = some (sReader 12 13) from rfl) rfl d_Reader_readOne_143 ?_
                refine X_aload_n d_Reader_readOne_146 rfl rfl ?_
                refine X_bipush (v := 41) d_Reader_readOne_147 rfl ?_
                refine X_callVv (rest := []) (k_Reader_expect_z l G nn (by omega) (iDec (orr (iAdv (iInc I)))) 41 (pOK_dec ((hR ho).2 _ (pOK_adv (pOK_inc h))))) lk_Reader_expect ml_Reader_56 (xm_obj (show xYc 11 = some (sReader 12 13) from rfl)) rfl rfl (Nat.le_of_ble_eq_true rfl) (xRok (d' := d - 1) (by omega) (by decide)) ⟨Nat.le_refl _, Nat.le_refl _⟩ d_Reader_readOne_149 rfl ?_
                refine X_goto (tgt := 159) d_Reader_readOne_152 (by decide) ?_
                exact X_vret rfl rfl (xle_of (congrArg (xm G xYc) (by first | (simp [iOne, c_1, c_2, c_3, Int32.not_lt.mp c_3, c_12, Int32.not_le.mpr c_12, c_13, c_14, of_decide_eq_true c_15, Int32.not_le.mpr (of_decide_eq_true c_15)]; done) | (unfold iOne; grind)))) d_Reader_readOne_159
          ·
            refine X_aload_n d_Reader_readOne_83 rfl rfl ?_
            refine X_callV (v := .int (xb (decide (I 11 7 < 5)))) (rest := []) (k_Reader_opened_z l G nn (by omega) I  h) lk_Reader_opened ml_Reader_93 (xm_obj (show xYc 11 = some (sReader 12 13) from rfl)) rfl rfl (Nat.le_of_ble_eq_true rfl) (xRok (d' := d - 1) (by omega) (by decide)) ⟨Nat.le_refl _, Nat.le_refl _⟩ d_Reader_readOne_84 rfl ?_
            refine X_ifb_eq (tgt := 159) d_Reader_readOne_87 (by decide) (fun c_18 => ?_) (fun c_18 => ?_)
            ·
              have e_19 : iOpn I = iFail I := if_pos (Int32.not_lt.mp (of_decide_eq_false c_18))
              rw [e_19]
              exact X_vret rfl rfl (xle_of (congrArg (xm G xYc) (by first | (simp [iOne, c_1, c_2, c_3, Int32.not_lt.mp c_3, c_12, Int32.not_le.mpr c_12, c_13, of_decide_eq_false c_18, Int32.not_lt.mp (of_decide_eq_false c_18)]; done) | (unfold iOne; grind)))) d_Reader_readOne_159
            ·
              have e_20 : iOpn I = iAdv (iInc I) := if_neg (Int32.not_le.mpr (of_decide_eq_true c_18))
              have ho : o < 5 := pOK_o5 h (of_decide_eq_true c_18)
              rw [e_20]
              refine X_aload_n d_Reader_readOne_90 rfl rfl ?_
              refine X_aload_n d_Reader_readOne_91 rfl rfl ?_
              refine X_callVv (rest := []) ((hO ho).1 _ nn (iAdv (iInc I)) (by omega) (pOK_adv (pOK_inc h))) lk_Reader_readOne ml_Reader_102 (xm_obj (show xYc 11 = some (sReader 12 13) from rfl)) rfl rfl (Nat.le_of_ble_eq_true rfl) (xRok (d' := d - 1) (by omega) (by decide)) ⟨Nat.le_refl _, Nat.le_refl _⟩ d_Reader_readOne_92 rfl ?_
              refine X_aload_n d_Reader_readOne_95 rfl rfl ?_
              refine X_dup d_Reader_readOne_96 rfl ?_
              refine X_getI (v := (one (iAdv (iInc I))) 11 7) fg_Reader_47 (show xYc 11 = some (sReader 12 13) from rfl) rfl (rfl) d_Reader_readOne_97 ?_
              refine X_iconst (v := 1) d_Reader_readOne_100 rfl ?_
              refine X_isub d_Reader_readOne_101 ?_
              refine X_putI fp_Reader_47 (show xYc 11 = some (sReader 12 13) from rfl) rfl d_Reader_readOne_102 ?_
              refine X_aload_n d_Reader_readOne_105 rfl rfl ?_
              refine X_sipush (v := 30001) d_Reader_readOne_106 rfl ?_
              refine X_callVv (rest := []) (k_Text_add_z l G nn (by omega) t hs (iDec (one (iAdv (iInc I)))) 30001) lk_Text_add ml_Reader_87 (xm_obj hs.1) rfl rfl (Nat.le_of_ble_eq_true rfl) (xRok (d' := d - 1) (by omega) (by decide)) ⟨Nat.le_refl _, Nat.le_refl _⟩ d_Reader_readOne_109 rfl ?_
              refine X_goto (tgt := 159) d_Reader_readOne_112 (by decide) ?_
              exact X_vret rfl rfl (xle_of (congrArg (xm G xYc) (by first | (simp [iOne, c_1, c_2, c_3, Int32.not_lt.mp c_3, c_12, Int32.not_le.mpr c_12, c_13, of_decide_eq_true c_18, Int32.not_le.mpr (of_decide_eq_true c_18)]; done) | (unfold iOne; grind)))) d_Reader_readOne_159
        ·
          refine X_aload_n d_Reader_readOne_51 rfl rfl ?_
          refine X_sipush (v := 10000) d_Reader_readOne_52 rfl ?_
          refine X_aload_n d_Reader_readOne_55 rfl rfl ?_
          refine X_getI (v := I 11 5) fg_Reader_74 (show xYc 11 = some (sReader 12 13) from rfl) rfl (rfl) d_Reader_readOne_56 ?_
          refine X_iadd d_Reader_readOne_59 ?_
          refine X_sipush (v := 134) d_Reader_readOne_60 rfl ?_
          refine X_isub d_Reader_readOne_63 ?_
          refine X_callVv (rest := []) (k_Text_add_z l G nn (by omega) t hs I ((10000 + (I 11 5)) - 134)) lk_Text_add ml_Reader_87 (xm_obj hs.1) rfl rfl (Nat.le_of_ble_eq_true rfl) (xRok (d' := d - 1) (by omega) (by decide)) ⟨Nat.le_refl _, Nat.le_refl _⟩ d_Reader_readOne_64 rfl ?_
          refine X_aload_n d_Reader_readOne_67 rfl rfl ?_
          refine X_callVv (rest := []) (k_Reader_advance_z l G nn (by omega) (iAdd t ((10000 + (I 11 5)) - 134) I)  (pOK_add_z h hs ((10000 + (I 11 5)) - 134))) lk_Reader_advance ml_Reader_53 (xm_obj (show xYc 11 = some (sReader 12 13) from rfl)) rfl rfl (Nat.le_of_ble_eq_true rfl) (xRok (d' := d - 1) (by omega) (by decide)) ⟨Nat.le_refl _, Nat.le_refl _⟩ d_Reader_readOne_68 rfl ?_
          refine X_goto (tgt := 159) d_Reader_readOne_71 (by decide) ?_
          exact X_vret rfl rfl (xle_of (congrArg (xm G xYc) (by first | (simp [iOne, c_1, c_2, c_3, Int32.not_lt.mp c_3, c_12, Int32.not_lt.mp c_12]; done) | (unfold iOne; grind)))) d_Reader_readOne_159
    ·
      refine X_aload_n d_Reader_readOne_16 rfl rfl ?_
      refine X_aload_n d_Reader_readOne_17 rfl rfl ?_
      refine X_getI (v := I 11 6) fg_Reader_105 (show xYc 11 = some (sReader 12 13) from rfl) rfl (rfl) d_Reader_readOne_18 ?_
      refine X_callVv (rest := []) (k_Text_add_z l G nn (by omega) t hs I (I 11 6)) lk_Text_add ml_Reader_87 (xm_obj hs.1) rfl rfl (Nat.le_of_ble_eq_true rfl) (xRok (d' := d - 1) (by omega) (by decide)) ⟨Nat.le_refl _, Nat.le_refl _⟩ d_Reader_readOne_21 rfl ?_
      refine X_aload_n d_Reader_readOne_24 rfl rfl ?_
      refine X_callVv (rest := []) (k_Reader_advance_z l G nn (by omega) (iAdd t (I 11 6) I)  (pOK_add_z h hs (I 11 6))) lk_Reader_advance ml_Reader_53 (xm_obj (show xYc 11 = some (sReader 12 13) from rfl)) rfl rfl (Nat.le_of_ble_eq_true rfl) (xRok (d' := d - 1) (by omega) (by decide)) ⟨Nat.le_refl _, Nat.le_refl _⟩ d_Reader_readOne_25 rfl ?_
      refine X_goto (tgt := 159) d_Reader_readOne_28 (by decide) ?_
      exact X_vret rfl rfl (xle_of (congrArg (xm G xYc) (by first | (simp [iOne, c_1, c_2]; done) | (unfold iOne; grind)))) d_Reader_readOne_159
  ·
    exact X_vret rfl rfl (xle_of (congrArg (xm G xYc) (by first | (simp [iOne, c_1]; done) | (unfold iOne; grind)))) d_Reader_readOne_7
theorem k_iLv_z (l : Launch) (G : xG) {n t : Nat} (hs : tSh_z t) : ∀ k o, o + k = 5 → cF_z l G (5 + 6 * k) y_Reader_readOne b_Reader_readOne 2 n o t (iLv t k).1 ∧ cF_z l G (8 + 6 * k) y_Reader_readNot b_Reader_readNot 3 n o t (iLv t k).2
  | 0, o, ho => by
    have h1 : cF_z l G 5 y_Reader_readOne b_Reader_readOne 2 n o t (iOne id id t) := k_Reader_readOne_z l G (h := 0) (h' := 0) hs (by omega) (fun q => absurd q (by omega)) (fun q => absurd q (by omega)) (by omega) (by omega) (by omega)
    have h2 := k_Reader_readTerm_z l G hs (by omega) h1 (by omega)
    have h3 := k_Reader_readSum_z l G hs (by omega) h2 (by omega)
    exact ⟨h1, k_Reader_readNot_z l G (h' := 0) hs (by omega) (fun q => absurd q (by omega)) h3 (by omega) (by omega) (by omega)⟩
  | k + 1, o, ho => by
    obtain ⟨g1, g2⟩ := k_iLv_z l G hs k (o + 1) (by omega)
    have g3 := k_Reader_readAnd_z l G hs (by omega) g2 (by omega)
    have g4 := k_Reader_readOr_z l G hs (by omega) g3 (by omega)
    have h1 : cF_z l G (5 + 6 * (k + 1)) y_Reader_readOne b_Reader_readOne 2 n o t (iOne (iLv t k).1 (iOr (iLv t k).2 t) t) := k_Reader_readOne_z l G hs (by omega) (fun _ => g1) (fun _ => g4) (by omega) (by omega) (by omega)
    have h2 := k_Reader_readTerm_z l G hs (by omega) h1 (by omega)
    have h3 := k_Reader_readSum_z l G hs (by omega) h2 (by omega)
    exact ⟨h1, k_Reader_readNot_z l G hs (by omega) (fun _ => g2) h3 (by omega) (by omega) (by omega)⟩
theorem k_iE_z (l : Launch) (G : xG) {n t : Nat} (hs : tSh_z t) : cF_z l G 40 y_Reader_readOr b_Reader_readOr 3 n 0 t (iE t) := by
  have g2 := (k_iLv_z l G (n := n) hs 5 0 rfl).2
  exact k_Reader_readOr_z l G hs (by omega) (k_Reader_readAnd_z l G hs (by omega) g2 (by omega)) (by omega)
theorem pOK_beg_z {n t : Nat} {I : xI} (hs : tSh_z t) (hn : n ≤ 160) (h2 : I 11 2 = nI n) : pOK n 0 (iBeg t I) := by
  have := hs.2.2.2
  refine ⟨hn, ?_, ⟨0, Nat.zero_le _, ?_⟩, ?_⟩ <;> simp only [iBeg, iClr]
  · rw [xw_k _ _ _ (by decide), xw_k _ _ _ (by decide), xw_k _ _ _ (by decide), xw_a _ _ _ _ (by omega), xw_a _ _ _ _ (by omega)]; exact h2
  · rw [xw_k _ _ _ (by decide), xw_k _ _ _ (by decide), xw_s]; rfl
  · rw [xw_k _ _ _ (by decide), xw_s]; rfl
theorem pOK_part_z {n t : Nat} {I : xI} (l : Launch) (G : xG) (hs : tSh_z t) (h : pOK n 0 I) (w : Int32) : pOK n 0 (iPart t w I) := pOK_end_z (pOK_exp ((k_iE_z l G hs).2 _ (pOK_exp h w)) 59) hs
theorem k_Reader_read_z (l : Launch) (G : xG) {d : Nat} (nn : Nat) (hd : 41 ≤ d) {n t : Nat} (hs : tSh_z t) (I : xI) (hn : n ≤ 160) (h2 : I 11 2 = nI n) : XM l G d y_Reader_read b_Reader_read 3 (some .int) 0 0 xK0 [.ref (xg G 11), .ref (xg G t)] nn (xm G xYc I) (some (.int (iRead t I 11 8))) nn (xm G xYc (iRead t I)) := by
  have h15 := hs.2.2.2
  have hE := k_iE_z l G (n := n) hs
  refine XM.of (by decide) (Nat.le_of_ble_eq_true rfl) (L := [(0, .ref (xg G 11)), (1, .ref (xg G t))]) rfl ?_
  refine X_aload_n d_Reader_read_0 rfl rfl ?_
  refine X_callVv (rest := []) (k_Text_clear_z l G nn (by omega) t hs I) lk_Text_clear ml_Reader_39 (xm_obj hs.1) rfl rfl (Nat.le_of_ble_eq_true rfl) (xRok (d' := d - 1) (by omega) (by decide)) ⟨Nat.le_refl _, Nat.le_refl _⟩ d_Reader_read_1 rfl ?_
  refine X_aload_n d_Reader_read_4 rfl rfl ?_
  refine X_iconst (v := 0) d_Reader_read_5 rfl ?_
  refine X_putI fp_Reader_44 (show xYc 11 = some (sReader 12 13) from rfl) rfl d_Reader_read_6 ?_
  refine X_aload_n d_Reader_read_9 rfl rfl ?_
  refine X_iconst (v := 0) d_Reader_read_10 rfl ?_
  refine X_putI fp_Reader_47 (show xYc 11 = some (sReader 12 13) from rfl) rfl d_Reader_read_11 ?_
  refine X_aload_n d_Reader_read_14 rfl rfl ?_
  refine X_iconst (v := -1) d_Reader_read_15 rfl ?_
  refine X_putI fp_Reader_50 (show xYc 11 = some (sReader 12 13) from rfl) rfl d_Reader_read_16 ?_
  refine X_aload_n d_Reader_read_19 rfl rfl ?_
  refine X_callVv (rest := []) (k_Reader_advance_z l G nn (by omega) (iBeg t I)  (pOK_beg_z hs hn h2)) lk_Reader_advance ml_Reader_53 (xm_obj (show xYc 11 = some (sReader 12 13) from rfl)) rfl rfl (Nat.le_of_ble_eq_true rfl) (xRok (d' := d - 1) (by omega) (by decide)) ⟨Nat.le_refl _, Nat.le_refl _⟩ d_Reader_read_20 rfl ?_
  refine X_iconst (v := 0) d_Reader_read_23 rfl ?_
  refine X_istore_n d_Reader_read_24 rfl (by decide) [1, 2, 0] (L' := [(0, .ref (xg G 11)), (1, .ref (xg G t)), (2, .int 0)]) rfl ?_
  refine X_iload_n d_Reader_read_25 rfl rfl ?_
  refine X_iconst (v := 3) d_Reader_read_26 rfl ?_
  refine X_icmp_ge (tgt := 60) d_Reader_read_27 (by decide) (fun c_1 => absurd c_1 (by decide)) (fun _ => ?_)
  refine X_aload_n d_Reader_read_30 rfl rfl ?_
  refine X_sipush (v := 128) d_Reader_read_31 rfl ?_
  refine X_iload_n d_Reader_read_34 rfl rfl ?_
  refine X_iadd d_Reader_read_35 ?_
  refine X_callVv (rest := []) (k_Reader_expect_z l G nn (by omega) (iAdv (iBeg t I)) 128 (pOK_adv (pOK_beg_z hs hn h2))) lk_Reader_expect ml_Reader_56 (xm_obj (show xYc 11 = some (sReader 12 13) from rfl)) rfl rfl (Nat.le_of_ble_eq_true rfl) (xRok (d' := d - 1) (by omega) (by decide)) ⟨Nat.le_refl _, Nat.le_refl _⟩ d_Reader_read_36 rfl ?_
  refine X_aload_n d_Reader_read_39 rfl rfl ?_
  refine X_aload_n d_Reader_read_40 rfl rfl ?_
  refine X_callVv (rest := []) (hE.1 _ nn (iExp 128 (iAdv (iBeg t I))) (by omega) (pOK_exp (pOK_adv (pOK_beg_z hs hn h2)) 128)) lk_Reader_readOr ml_Reader_60 (xm_obj (show xYc 11 = some (sReader 12 13) from rfl)) rfl rfl (Nat.le_of_ble_eq_true rfl) (xRok (d' := d - 1) (by omega) (by decide)) ⟨Nat.le_refl _, Nat.le_refl _⟩ d_Reader_read_41 rfl ?_
  refine X_aload_n d_Reader_read_44 rfl rfl ?_
  refine X_bipush (v := 59) d_Reader_read_45 rfl ?_
  refine X_callVv (rest := []) (k_Reader_expect_z l G nn (by omega) ((iE t) (iExp 128 (iAdv (iBeg t I)))) 59 (hE.2 _ (pOK_exp (pOK_adv (pOK_beg_z hs hn h2)) 128))) lk_Reader_expect ml_Reader_56 (xm_obj (show xYc 11 = some (sReader 12 13) from rfl)) rfl rfl (Nat.le_of_ble_eq_true rfl) (xRok (d' := d - 1) (by omega) (by decide)) ⟨Nat.le_refl _, Nat.le_refl _⟩ d_Reader_read_47 rfl ?_
  refine X_aload_n d_Reader_read_50 rfl rfl ?_
  refine X_callVv (rest := []) (k_Text_endPart_z l G nn (by omega) t hs (iExp 59 ((iE t) (iExp 128 (iAdv (iBeg t I)))))) lk_Text_endPart ml_Reader_64 (xm_obj hs.1) rfl rfl (Nat.le_of_ble_eq_true rfl) (xRok (d' := d - 1) (by omega) (by decide)) ⟨Nat.le_refl _, Nat.le_refl _⟩ d_Reader_read_51 rfl ?_
  refine X_iinc d_Reader_read_54 rfl (v := 1) rfl (by decide) [1, 2, 0] (L' := [(0, .ref (xg G 11)), (1, .ref (xg G t)), (2, .int 1)]) rfl ?_
  refine X_goto (tgt := 25) d_Reader_read_57 (by decide) ?_
  refine X_iload_n d_Reader_read_25 rfl rfl ?_
  refine X_iconst (v := 3) d_Reader_read_26 rfl ?_
  refine X_icmp_ge (tgt := 60) d_Reader_read_27 (by decide) (fun c_2 => absurd c_2 (by decide)) (fun _ => ?_)
  refine X_aload_n d_Reader_read_30 rfl rfl ?_
  refine X_sipush (v := 128) d_Reader_read_31 rfl ?_
  refine X_iload_n d_Reader_read_34 rfl rfl ?_
  refine X_iadd d_Reader_read_35 ?_
  refine X_callVv (rest := []) (k_Reader_expect_z l G nn (by omega) (iEnd t (iExp 59 ((iE t) (iExp 128 (iAdv (iBeg t I)))))) 129 (pOK_end_z (pOK_exp (hE.2 _ (pOK_exp (pOK_adv (pOK_beg_z hs hn h2)) 128)) 59) hs)) lk_Reader_expect ml_Reader_56 (xm_obj (show xYc 11 = some (sReader 12 13) from rfl)) rfl rfl (Nat.le_of_ble_eq_true rfl) (xRok (d' := d - 1) (by omega) (by decide)) ⟨Nat.le_refl _, Nat.le_refl _⟩ d_Reader_read_36 rfl ?_
  refine X_aload_n d_Reader_read_39 rfl rfl ?_
  refine X_aload_n d_Reader_read_40 rfl rfl ?_
  refine X_callVv (rest := []) (hE.1 _ nn (iExp 129 (iEnd t (iExp 59 ((iE t) (iExp 128 (iAdv (iBeg t I))))))) (by omega) (pOK_exp (pOK_end_z (pOK_exp (hE.2 _ (pOK_exp (pOK_adv (pOK_beg_z hs hn h2)) 128)) 59) hs) 129)) lk_Reader_readOr ml_Reader_60 (xm_obj (show xYc 11 = some (sReader 12 13) from rfl)) rfl rfl (Nat.le_of_ble_eq_true rfl) (xRok (d' := d - 1) (by omega) (by decide)) ⟨Nat.le_refl _, Nat.le_refl _⟩ d_Reader_read_41 rfl ?_
  refine X_aload_n d_Reader_read_44 rfl rfl ?_
  refine X_bipush (v := 59) d_Reader_read_45 rfl ?_
  refine X_callVv (rest := []) (k_Reader_expect_z l G nn (by omega) ((iE t) (iExp 129 (iEnd t (iExp 59 ((iE t) (iExp 128 (iAdv (iBeg t I)))))))) 59 (hE.2 _ (pOK_exp (pOK_end_z (pOK_exp (hE.2 _ (pOK_exp (pOK_adv (pOK_beg_z hs hn h2)) 128)) 59) hs) 129))) lk_Reader_expect ml_Reader_56 (xm_obj (show xYc 11 = some (sReader 12 13) from rfl)) rfl rfl (Nat.le_of_ble_eq_true rfl) (xRok (d' := d - 1) (by omega) (by decide)) ⟨Nat.le_refl _, Nat.le_refl _⟩ d_Reader_read_47 rfl ?_
  refine X_aload_n d_Reader_read_50 rfl rfl ?_
  refine X_callVv (rest := []) (k_Text_endPart_z l G nn (by omega) t hs (iExp 59 ((iE t) (iExp 129 (iEnd t (iExp 59 ((iE t) (iExp 128 (iAdv (iBeg t I)))))))))) lk_Text_endPart ml_Reader_64 (xm_obj hs.1) rfl rfl (Nat.le_of_ble_eq_true rfl) (xRok (d' := d - 1) (by omega) (by decide)) ⟨Nat.le_refl _, Nat.le_refl _⟩ d_Reader_read_51 rfl ?_
  refine X_iinc d_Reader_read_54 rfl (v := 2) rfl (by decide) [1, 2, 0] (L' := [(0, .ref (xg G 11)), (1, .ref (xg G t)), (2, .int 2)]) rfl ?_
  refine X_goto (tgt := 25) d_Reader_read_57 (by decide) ?_
  refine X_iload_n d_Reader_read_25 rfl rfl ?_
  refine X_iconst (v := 3) d_Reader_read_26 rfl ?_
  refine X_icmp_ge (tgt := 60) d_Reader_read_27 (by decide) (fun c_3 => absurd c_3 (by decide)) (fun _ => ?_)
  refine X_aload_n d_Reader_read_30 rfl rfl ?_
  refine X_sipush (v := 128) d_Reader_read_31 rfl ?_
  refine X_iload_n d_Reader_read_34 rfl rfl ?_
  refine X_iadd d_Reader_read_35 ?_
  refine X_callVv (rest := []) (k_Reader_expect_z l G nn (by omega) (iEnd t (iExp 59 ((iE t) (iExp 129 (iEnd t (iExp 59 ((iE t) (iExp 128 (iAdv (iBeg t I)))))))))) 130 (pOK_end_z (pOK_exp (hE.2 _ (pOK_exp (pOK_end_z (pOK_exp (hE.2 _ (pOK_exp (pOK_adv (pOK_beg_z hs hn h2)) 128)) 59) hs) 129)) 59) hs)) lk_Reader_expect ml_Reader_56 (xm_obj (show xYc 11 = some (sReader 12 13) from rfl)) rfl rfl (Nat.le_of_ble_eq_true rfl) (xRok (d' := d - 1) (by omega) (by decide)) ⟨Nat.le_refl _, Nat.le_refl _⟩ d_Reader_read_36 rfl ?_
  refine X_aload_n d_Reader_read_39 rfl rfl ?_
  refine X_aload_n d_Reader_read_40 rfl rfl ?_
  refine X_callVv (rest := []) (hE.1 _ nn (iExp 130 (iEnd t (iExp 59 ((iE t) (iExp 129 (iEnd t (iExp 59 ((iE t) (iExp 128 (iAdv (iBeg t I))))))))))) (by omega) (pOK_exp (pOK_end_z (pOK_exp (hE.2 _ (pOK_exp (pOK_end_z (pOK_exp (hE.2 _ (pOK_exp (pOK_adv (pOK_beg_z hs hn h2)) 128)) 59) hs) 129)) 59) hs) 130)) lk_Reader_readOr ml_Reader_60 (xm_obj (show xYc 11 = some (sReader 12 13) from rfl)) rfl rfl (Nat.le_of_ble_eq_true rfl) (xRok (d' := d - 1) (by omega) (by decide)) ⟨Nat.le_refl _, Nat.le_refl _⟩ d_Reader_read_41 rfl ?_
  refine X_aload_n d_Reader_read_44 rfl rfl ?_
  refine X_bipush (v := 59) d_Reader_read_45 rfl ?_
  refine X_callVv (rest := []) (k_Reader_expect_z l G nn (by omega) ((iE t) (iExp 130 (iEnd t (iExp 59 ((iE t) (iExp 129 (iEnd t (iExp 59 ((iE t) (iExp 128 (iAdv (iBeg t I)))))))))))) 59 (hE.2 _ (pOK_exp (pOK_end_z (pOK_exp (hE.2 _ (pOK_exp (pOK_end_z (pOK_exp (hE.2 _ (pOK_exp (pOK_adv (pOK_beg_z hs hn h2)) 128)) 59) hs) 129)) 59) hs) 130))) lk_Reader_expect ml_Reader_56 (xm_obj (show xYc 11 = some (sReader 12 13) from rfl)) rfl rfl (Nat.le_of_ble_eq_true rfl) (xRok (d' := d - 1) (by omega) (by decide)) ⟨Nat.le_refl _, Nat.le_refl _⟩ d_Reader_read_47 rfl ?_
  refine X_aload_n d_Reader_read_50 rfl rfl ?_
  refine X_callVv (rest := []) (k_Text_endPart_z l G nn (by omega) t hs (iExp 59 ((iE t) (iExp 130 (iEnd t (iExp 59 ((iE t) (iExp 129 (iEnd t (iExp 59 ((iE t) (iExp 128 (iAdv (iBeg t I)))))))))))))) lk_Text_endPart ml_Reader_64 (xm_obj hs.1) rfl rfl (Nat.le_of_ble_eq_true rfl) (xRok (d' := d - 1) (by omega) (by decide)) ⟨Nat.le_refl _, Nat.le_refl _⟩ d_Reader_read_51 rfl ?_
  refine X_iinc d_Reader_read_54 rfl (v := 3) rfl (by decide) [1, 2, 0] (L' := [(0, .ref (xg G 11)), (1, .ref (xg G t)), (2, .int 3)]) rfl ?_
  refine X_goto (tgt := 25) d_Reader_read_57 (by decide) ?_
  refine X_iload_n d_Reader_read_25 rfl rfl ?_
  refine X_iconst (v := 3) d_Reader_read_26 rfl ?_
  refine X_icmp_ge (tgt := 60) d_Reader_read_27 (by decide) (fun _ => ?_) (fun c_4 => absurd c_4 (by decide))
  refine X_aload_n d_Reader_read_60 rfl rfl ?_
  refine X_iconst (v := 0) d_Reader_read_61 rfl ?_
  refine X_callVv (rest := []) (k_Reader_expect_z l G nn (by omega) (iEnd t (iExp 59 ((iE t) (iExp 130 (iEnd t (iExp 59 ((iE t) (iExp 129 (iEnd t (iExp 59 ((iE t) (iExp 128 (iAdv (iBeg t I)))))))))))))) 0 (pOK_end_z (pOK_exp (hE.2 _ (pOK_exp (pOK_end_z (pOK_exp (hE.2 _ (pOK_exp (pOK_end_z (pOK_exp (hE.2 _ (pOK_exp (pOK_adv (pOK_beg_z hs hn h2)) 128)) 59) hs) 129)) 59) hs) 130)) 59) hs)) lk_Reader_expect ml_Reader_56 (xm_obj (show xYc 11 = some (sReader 12 13) from rfl)) rfl rfl (Nat.le_of_ble_eq_true rfl) (xRok (d' := d - 1) (by omega) (by decide)) ⟨Nat.le_refl _, Nat.le_refl _⟩ d_Reader_read_62 rfl ?_
  refine X_aload_n d_Reader_read_65 rfl rfl ?_
  refine X_getI (v := (iExp 0 (iEnd t (iExp 59 ((iE t) (iExp 130 (iEnd t (iExp 59 ((iE t) (iExp 129 (iEnd t (iExp 59 ((iE t) (iExp 128 (iAdv (iBeg t I))))))))))))))) 11 8) fg_Reader_50 (show xYc 11 = some (sReader 12 13) from rfl) rfl (rfl) d_Reader_read_66 ?_
  exact X_iret rfl rfl (xle_rf _) d_Reader_read_69

theorem k_Reader_take_z (l : Launch) (G : xG) {d : Nat} (nn : Nat) (hd : 1 ≤ d) (I : xI) (v : Int32) : XM l G d y_Reader_take b_Reader_take 2 (none) 0 0 xK0 [.ref (xg G 11), .int v] nn (xm G xYc I) (none) nn (xm G xYc (iTake v I)) := by
  refine XM.of (by decide) (Nat.le_of_ble_eq_true rfl) (L := [(0, .ref (xg G 11)), (1, .int v)]) rfl ?_
  refine X_aload_n d_Reader_take_0 rfl rfl ?_
  refine X_getI (v := I 11 2) fg_Reader_35 (show xYc 11 = some (sReader 12 13) from rfl) rfl (rfl) d_Reader_take_1 ?_
  refine X_if_lt (tgt := 39) d_Reader_take_4 (by decide) (fun c_1 => ?_) (fun c_1 => ?_)
  ·
    exact X_vret rfl rfl (xle_of (congrArg (xm G xYc) (by simp only [iTake]; first | rw [if_pos ⟨by grind, by grind⟩] | rw [if_neg (by grind)]))) d_Reader_take_39
  ·
    refine X_aload_n d_Reader_take_7 rfl rfl ?_
    refine X_getI (v := I 11 2) fg_Reader_35 (show xYc 11 = some (sReader 12 13) from rfl) rfl (rfl) d_Reader_take_8 ?_
    refine X_aload_n d_Reader_take_11 rfl rfl ?_
    refine X_getR (r := 12) fg_Reader_11 (show xYc 11 = some (sReader 12 13) from rfl) rfl d_Reader_take_12 ?_
    refine X_alenI (v := 160) (show xYc 12 = some (sInts 160) from rfl) rfl d_Reader_take_15 ?_
    refine X_icmp_ge (tgt := 39) d_Reader_take_16 (by decide) (fun c_2 => ?_) (fun c_2 => ?_)
    ·
      exact X_vret rfl rfl (xle_of (congrArg (xm G xYc) (by simp only [iTake]; first | rw [if_pos ⟨by grind, by grind⟩] | rw [if_neg (by grind)]))) d_Reader_take_39
    ·
      refine X_aload_n d_Reader_take_19 rfl rfl ?_
      refine X_getR (r := 12) fg_Reader_11 (show xYc 11 = some (sReader 12 13) from rfl) rfl d_Reader_take_20 ?_
      refine X_aload_n d_Reader_take_23 rfl rfl ?_
      refine X_getI (v := I 11 2) fg_Reader_35 (show xYc 11 = some (sReader 12 13) from rfl) rfl (rfl) d_Reader_take_24 ?_
      refine X_iload_n d_Reader_take_27 rfl rfl ?_
      refine X_astI (show xYc 12 = some (sInts 160) from rfl) (xvp (B := 160) (by grind) (by grind) (by decide)) d_Reader_take_28 ?_
      refine X_aload_n d_Reader_take_29 rfl rfl ?_
      refine X_dup d_Reader_take_30 rfl ?_
      refine X_getI (v := I 11 2) fg_Reader_35 (show xYc 11 = some (sReader 12 13) from rfl) rfl (xw_a _ _ _ _ (by decide)) d_Reader_take_31 ?_
      refine X_iconst (v := 1) d_Reader_take_34 rfl ?_
      refine X_iadd d_Reader_take_35 ?_
      refine X_putI fp_Reader_35 (show xYc 11 = some (sReader 12 13) from rfl) rfl d_Reader_take_36 ?_
      exact X_vret rfl rfl (xle_of (congrArg (xm G xYc) (by simp only [iTake]; first | rw [if_pos ⟨by grind, by grind⟩] | rw [if_neg (by grind)]))) d_Reader_take_39
theorem k_Reader_empty_z (l : Launch) (G : xG) {d : Nat} (nn : Nat) (hd : 1 ≤ d) (I : xI) : XM l G d y_Reader_empty b_Reader_empty 1 (none) 0 0 xK0 [.ref (xg G 11)] nn (xm G xYc I) (none) nn (xm G xYc (xw I 11 2 0)) := by
  refine XM.of (by decide) (Nat.le_of_ble_eq_true rfl) (L := [(0, .ref (xg G 11))]) rfl ?_
  refine X_aload_n d_Reader_empty_0 rfl rfl ?_
  refine X_iconst (v := 0) d_Reader_empty_1 rfl ?_
  refine X_putI fp_Reader_35 (show xYc 11 = some (sReader 12 13) from rfl) rfl d_Reader_empty_2 ?_
  exact X_vret rfl rfl (xle_of (congrArg (xm G xYc) (by rfl))) d_Reader_empty_5
