def Q_Head_spin (l : Launch) (G : xG) (d nn : Nat) (Y : xY) (I : xI) (h t : Nat) (S : xSay) (n speed : Int32) (T : Nat) (i : Nat) : Prop := XW l G (xR d 0 0) y_Head_spin b_Head_spin 6 (none) xK0 (xZ G nn (xm G Y (xup I h (hSpinN S speed (hSide n) T (I h)))) (none) 0 0) nn (xm G Y (xup I h (hSpinN S speed (hSide n) i (I h)))) 0 0 9 [(0, .ref (xg G h)), (1, .ref (xg G t)), (2, .int n), (3, .int speed), (4, .int (nI T)), (5, .int (nI i))] []
theorem w_Head_spin (l : Launch) (G : xG) {d : Nat} (nn : Nat) (Y : xY) (I : xI) (hd : 8 ≤ d) (h : Nat) (hh : Y h = some sHead) (t : Nat) (S : xSay) (hT : xTx Y I t S) (n speed : Int32) (T : Nat) (hT31 : T < 2 ^ 31) (i : Nat) (hi : i ≤ T) (ih : i < T → Q_Head_spin l G d nn Y I h t S n speed T (i + 1)) : Q_Head_spin l G d nn Y I h t S n speed T i := by
  unfold Q_Head_spin
  refine X_iload d_Head_spin_9 rfl ?_
  refine X_iload d_Head_spin_11 rfl ?_
  refine X_icmp_ge (tgt := 37) d_Head_spin_13 (by decide) (fun c_1 => ?_) (fun c_1 => ?_)
  ·
    have hdone := nI_done hi hT31 c_1
    subst hdone
    exact X_vret rfl rfl (xle_rf _) d_Head_spin_37
  ·
    refine X_aload_n d_Head_spin_16 rfl rfl ?_
    refine X_aload_n d_Head_spin_17 rfl rfl ?_
    refine X_iload_n d_Head_spin_18 rfl rfl ?_
    refine X_iload_n d_Head_spin_19 rfl rfl ?_
    refine X_if_le (tgt := 27) d_Head_spin_20 (by decide) (fun c_2 => ?_) (fun c_2 => ?_)
    ·
      refine X_iconst (v := -1) d_Head_spin_27 rfl ?_
      refine X_callVv (rest := []) (c_Head_spinOnce l G nn Y (xup I h (hSpinN S speed (hSide n) i (I h))) (by omega) h hh t S (xTx_up hT hh) speed (-1)) lk_Head_spinOnce ml_Head_76 (xm_obj hh) rfl rfl (Nat.le_of_ble_eq_true rfl) (xRok (d' := d - 1) (by omega) (by decide)) ⟨Nat.le_refl _, Nat.le_refl _⟩ d_Head_spin_28 rfl ?_
      refine X_iinc d_Head_spin_31 rfl (v := (nI i) + 1) rfl (by decide) [1, 2, 3, 4, 5, 0] (L' := [(0, .ref (xg G h)), (1, .ref (xg G t)), (2, .int n), (3, .int speed), (4, .int (nI T)), (5, .int ((nI i) + 1))]) rfl ?_
      refine X_goto (tgt := 9) d_Head_spin_34 (by decide) ?_
      have hlt := nI_more hi hT31 c_1
      have hsd : hSide n = (-1) := by simp [hSide, c_2, Int32.not_lt.mpr c_2]
      rw [nI_1, xup_s, xup_up, ← hsd]
      exact ih hlt
    ·
      refine X_iconst (v := 1) d_Head_spin_23 rfl ?_
      refine X_goto (tgt := 28) d_Head_spin_24 (by decide) ?_
      refine X_callVv (rest := []) (c_Head_spinOnce l G nn Y (xup I h (hSpinN S speed (hSide n) i (I h))) (by omega) h hh t S (xTx_up hT hh) speed 1) lk_Head_spinOnce ml_Head_76 (xm_obj hh) rfl rfl (Nat.le_of_ble_eq_true rfl) (xRok (d' := d - 1) (by omega) (by decide)) ⟨Nat.le_refl _, Nat.le_refl _⟩ d_Head_spin_28 rfl ?_
      refine X_iinc d_Head_spin_31 rfl (v := (nI i) + 1) rfl (by decide) [1, 2, 3, 4, 5, 0] (L' := [(0, .ref (xg G h)), (1, .ref (xg G t)), (2, .int n), (3, .int speed), (4, .int (nI T)), (5, .int ((nI i) + 1))]) rfl ?_
      refine X_goto (tgt := 9) d_Head_spin_34 (by decide) ?_
      have hlt := nI_more hi hT31 c_1
      have hsd : hSide n = 1 := by simp [hSide, c_2, Int32.not_le.mp c_2]
      rw [nI_1, xup_s, xup_up, ← hsd]
      exact ih hlt
theorem c_Head_spin (l : Launch) (G : xG) {d : Nat} (nn : Nat) (Y : xY) (I : xI) (hd : 8 ≤ d) (h : Nat) (hh : Y h = some sHead) (t : Nat) (S : xSay) (hT : xTx Y I t S) (n speed : Int32) (hn : ¬ xabs n < 0) : XM l G d y_Head_spin b_Head_spin 6 (none) 0 0 xK0 [.ref (xg G h), .ref (xg G t), .int n, .int speed] nn (xm G Y I) (none) nn (xm G Y (xup I h (hSpin S n speed (I h)))) := by
  obtain ⟨T, hT31, hnT⟩ := nI_of hn
  rw [hSpin, hnT, nI_cl hT31]
  refine XM.of (by decide) (Nat.le_of_ble_eq_true rfl) (L := [(0, .ref (xg G h)), (1, .ref (xg G t)), (2, .int n), (3, .int speed)]) rfl ?_
  refine X_iload_n d_Head_spin_0 rfl rfl ?_
  refine X_mabsx ml_Head_46 mt_abs mi_math mc_abs (xRm (by omega) (Nat.le_of_ble_eq_true rfl)) ⟨Nat.zero_le _, Nat.zero_le _⟩ d_Head_spin_1 ?_
  rw [hnT]
  refine X_istore d_Head_spin_4 (by decide) [1, 2, 3, 4, 0] (L' := [(0, .ref (xg G h)), (1, .ref (xg G t)), (2, .int n), (3, .int speed), (4, .int (nI T))]) rfl ?_
  refine X_iconst (v := 0) d_Head_spin_6 rfl ?_
  refine X_istore d_Head_spin_7 (by decide) [1, 2, 3, 4, 5, 0] (L' := [(0, .ref (xg G h)), (1, .ref (xg G t)), (2, .int n), (3, .int speed), (4, .int (nI T)), (5, .int 0)]) rfl ?_
  have hq := xloop (T := T) (fun i hi ih => w_Head_spin l G nn Y I hd h hh t S hT n speed T hT31 i hi ih) 0 (Nat.zero_le _)
  unfold Q_Head_spin at hq
  rw [hSpinN, xup_self] at hq
  exact hq
def Q_Head_linger (l : Launch) (G : xG) (d nn : Nat) (Y : xY) (I : xI) (h t : Nat) (S : xSay) (eyes : Int32) (T : Nat) (i : Nat) : Prop := XW l G (xR d 0 0) y_Head_linger b_Head_linger 5 (none) xK0 (xZ G nn (xm G Y (xup I h (hLing S eyes T (I h)))) (none) 0 0) nn (xm G Y (xup I h (hLing S eyes i (I h)))) 0 0 3 [(0, .ref (xg G h)), (1, .ref (xg G t)), (2, .int (nI T)), (3, .int eyes), (4, .int (nI i))] []
theorem w_Head_linger (l : Launch) (G : xG) {d : Nat} (nn : Nat) (Y : xY) (I : xI) (hd : 7 ≤ d) (h : Nat) (hh : Y h = some sHead) (t : Nat) (S : xSay) (hT : xTx Y I t S) (eyes : Int32) (T : Nat) (hT31 : T < 2 ^ 31) (i : Nat) (hi : i ≤ T) (ih : i < T → Q_Head_linger l G d nn Y I h t S eyes T (i + 1)) : Q_Head_linger l G d nn Y I h t S eyes T i := by
  unfold Q_Head_linger
  refine X_iload d_Head_linger_3 rfl ?_
  refine X_iload_n d_Head_linger_5 rfl rfl ?_
  refine X_icmp_ge (tgt := 21) d_Head_linger_6 (by decide) (fun c_1 => ?_) (fun c_1 => ?_)
  ·
    have hdone := nI_done hi hT31 c_1
    subst hdone
    exact X_vret rfl rfl (xle_rf _) d_Head_linger_21
  ·
    refine X_aload_n d_Head_linger_9 rfl rfl ?_
    refine X_aload_n d_Head_linger_10 rfl rfl ?_
    refine X_iload_n d_Head_linger_11 rfl rfl ?_
    refine X_callVv (rest := []) (c_Head_fade l G nn Y (xup I h (hLing S eyes i (I h))) (by omega) h hh t S (xTx_up hT hh) eyes) lk_Head_fade ml_Head_72 (xm_obj hh) rfl rfl (Nat.le_of_ble_eq_true rfl) (xRok (d' := d - 1) (by omega) (by decide)) ⟨Nat.le_refl _, Nat.le_refl _⟩ d_Head_linger_12 rfl ?_
    refine X_iinc d_Head_linger_15 rfl (v := (nI i) + 1) rfl (by decide) [1, 2, 3, 4, 0] (L' := [(0, .ref (xg G h)), (1, .ref (xg G t)), (2, .int (nI T)), (3, .int eyes), (4, .int ((nI i) + 1))]) rfl ?_
    refine X_goto (tgt := 3) d_Head_linger_18 (by decide) ?_
    have hlt := nI_more hi hT31 c_1
    rw [nI_1, xup_s, xup_up]
    exact ih hlt
theorem c_Head_linger (l : Launch) (G : xG) {d : Nat} (nn : Nat) (Y : xY) (I : xI) (hd : 7 ≤ d) (h : Nat) (hh : Y h = some sHead) (t : Nat) (S : xSay) (hT : xTx Y I t S) (seconds eyes : Int32) (hs : ¬ seconds < 0) : XM l G d y_Head_linger b_Head_linger 5 (none) 0 0 xK0 [.ref (xg G h), .ref (xg G t), .int seconds, .int eyes] nn (xm G Y I) (none) nn (xm G Y (xup I h (hLing S eyes seconds.toNatClampNeg (I h)))) := by
  obtain ⟨T, hT31, hsT⟩ := nI_of hs
  subst hsT
  rw [nI_cl hT31]
  refine XM.of (by decide) (Nat.le_of_ble_eq_true rfl) (L := [(0, .ref (xg G h)), (1, .ref (xg G t)), (2, .int (nI T)), (3, .int eyes)]) rfl ?_
  refine X_iconst (v := 0) d_Head_linger_0 rfl ?_
  refine X_istore d_Head_linger_1 (by decide) [1, 2, 3, 4, 0] (L' := [(0, .ref (xg G h)), (1, .ref (xg G t)), (2, .int (nI T)), (3, .int eyes), (4, .int 0)]) rfl ?_
  have hq := xloop (T := T) (fun i hi ih => w_Head_linger l G nn Y I hd h hh t S hT eyes T hT31 i hi ih) 0 (Nat.zero_le _)
  unfold Q_Head_linger at hq
  rw [hLing, xup_self] at hq
  exact hq
def Q_Head_goOn (l : Launch) (G : xG) (d nn : Nat) (Y : xY) (I : xI) (h t : Nat) (S : xSay) (pace eyes : Int32) (T : Nat) (i : Nat) : Prop := ∀ f : Nat → Int32, (f 7 = 0 ∨ f 7 = 1) → XW l G (xR d 0 0) y_Head_goOn b_Head_goOn 6 (some .int) xK0 (xZ G nn (xm G Y (xup I h (hGo S pace eyes (T - i) f))) (some (.int (hFall S pace eyes (T - i) i f))) 0 0) nn (xm G Y (xup I h f)) 0 0 3 [(0, .ref (xg G h)), (1, .ref (xg G t)), (2, .int (nI T)), (3, .int pace), (4, .int eyes), (5, .int (nI i))] []
theorem w_Head_goOn (l : Launch) (G : xG) {d : Nat} (nn : Nat) (Y : xY) (I : xI) (hd : 8 ≤ d) (h : Nat) (hh : Y h = some sHead) (t : Nat) (S : xSay) (hT : xTx Y I t S) (pace eyes : Int32) (T : Nat) (hT31 : T < 2 ^ 31) (i : Nat) (hi : i ≤ T) (ih : i < T → Q_Head_goOn l G d nn Y I h t S pace eyes T (i + 1)) : Q_Head_goOn l G d nn Y I h t S pace eyes T i := by
  unfold Q_Head_goOn
  intro f h7
  refine X_iload d_Head_goOn_3 rfl ?_
  refine X_iload_n d_Head_goOn_5 rfl rfl ?_
  refine X_icmp_ge (tgt := 42) d_Head_goOn_6 (by decide) (fun c_1 => ?_) (fun c_1 => ?_)
  ·
    refine X_iconst (v := -1) d_Head_goOn_42 rfl ?_
    have hdone := nI_done hi hT31 c_1
    subst hdone
    exact X_iret rfl (by rw [Nat.sub_self]; rfl) (xle_of (by rw [Nat.sub_self]; rfl)) d_Head_goOn_43
  ·
    refine X_aload_n d_Head_goOn_9 rfl rfl ?_
    refine X_getI (v := f 7) fg_Head_36 hh rfl (congrFun (xup_s _ _ _) _) d_Head_goOn_10 ?_
    refine X_if_eq (tgt := 18) d_Head_goOn_13 (by decide) (fun c_2 => ?_) (fun c_2 => ?_)
    ·
      refine X_aload_n d_Head_goOn_18 rfl rfl ?_
      refine X_aload_n d_Head_goOn_19 rfl rfl ?_
      refine X_iload_n d_Head_goOn_20 rfl rfl ?_
      refine X_iload d_Head_goOn_21 rfl ?_
      refine X_callVv (rest := []) (c_Head_step l G nn Y (xup I h f) (by omega) h hh t S (xTx_up hT hh) pace eyes) lk_Head_step ml_Head_86 (xm_obj hh) rfl rfl (Nat.le_of_ble_eq_true rfl) (xRok (d' := d - 1) (by omega) (by decide)) ⟨Nat.le_refl _, Nat.le_refl _⟩ d_Head_goOn_23 rfl ?_
      refine X_aload_n d_Head_goOn_26 rfl rfl ?_
      refine X_getI (v := (hStep S pace eyes ((xup I h f) h)) 7) fg_Head_36 hh rfl (congrFun (xup_s _ _ _) _) d_Head_goOn_27 ?_
      refine X_if_eq (tgt := 36) d_Head_goOn_30 (by decide) (fun c_3 => ?_) (fun c_3 => ?_)
      ·
        refine X_iinc d_Head_goOn_36 rfl (v := (nI i) + 1) rfl (by decide) [1, 2, 3, 4, 5, 0] (L' := [(0, .ref (xg G h)), (1, .ref (xg G t)), (2, .int (nI T)), (3, .int pace), (4, .int eyes), (5, .int ((nI i) + 1))]) rfl ?_
        refine X_goto (tgt := 3) d_Head_goOn_39 (by decide) ?_
        have hlt := nI_more hi hT31 c_1
        rw [show T - i = (T - (i + 1)) + 1 by omega, hGo, hFall, if_pos c_2, if_pos (show hStep S pace eyes f 7 = 0 from (by have q := c_3; rw [xup_s] at q; exact q)), nI_1, xup_s, xup_up]
        exact ih hlt _ (hStep_7 S pace eyes f h7)
      ·
        refine X_iload d_Head_goOn_33 rfl ?_
        have hlt := nI_more hi hT31 c_1
        have hq : ¬ hStep S pace eyes f 7 = 0 := (by have q := c_3; rw [xup_s] at q; exact q)
        have hf : hStep S pace eyes f 7 = 1 := (hStep_7 S pace eyes f h7).resolve_left hq
        exact X_iret rfl (by rw [show T - i = (T - (i + 1)) + 1 by omega, hFall, if_pos c_2, if_neg hq]) (xle_of (by rw [show T - i = (T - (i + 1)) + 1 by omega, hGo, hGo_down S pace eyes _ _ hf, xup_s, xup_up])) d_Head_goOn_35
    ·
      refine X_iconst (v := -1) d_Head_goOn_16 rfl ?_
      have hlt := nI_more hi hT31 c_1
      have hf : f 7 = 1 := h7.resolve_left c_2
      exact X_iret rfl (by rw [show T - i = (T - (i + 1)) + 1 by omega, hFall, if_neg c_2]) (xle_of (by rw [hGo_down S pace eyes _ f hf])) d_Head_goOn_17
theorem c_Head_goOn (l : Launch) (G : xG) {d : Nat} (nn : Nat) (Y : xY) (I : xI) (hd : 8 ≤ d) (h : Nat) (hh : Y h = some sHead) (t : Nat) (S : xSay) (hT : xTx Y I t S) (seconds pace eyes : Int32) (hs : ¬ seconds < 0) (h7 : I h 7 = 0 ∨ I h 7 = 1) : XM l G d y_Head_goOn b_Head_goOn 6 (some .int) 0 0 xK0 [.ref (xg G h), .ref (xg G t), .int seconds, .int pace, .int eyes] nn (xm G Y I) (some (.int (hFall S pace eyes seconds.toNatClampNeg 0 (I h)))) nn (xm G Y (xup I h (hGo S pace eyes seconds.toNatClampNeg (I h)))) := by
  obtain ⟨T, hT31, hsT⟩ := nI_of hs
  subst hsT
  rw [nI_cl hT31]
  refine XM.of (by decide) (Nat.le_of_ble_eq_true rfl) (L := [(0, .ref (xg G h)), (1, .ref (xg G t)), (2, .int (nI T)), (3, .int pace), (4, .int eyes)]) rfl ?_
  refine X_iconst (v := 0) d_Head_goOn_0 rfl ?_
  refine X_istore d_Head_goOn_1 (by decide) [1, 2, 3, 4, 5, 0] (L' := [(0, .ref (xg G h)), (1, .ref (xg G t)), (2, .int (nI T)), (3, .int pace), (4, .int eyes), (5, .int 0)]) rfl ?_
  have hq := xloop (T := T) (fun i hi ih => w_Head_goOn l G nn Y I hd h hh t S hT pace eyes T hT31 i hi ih) 0 (Nat.zero_le _) (I h) h7
  rw [xup_self] at hq
  exact hq
