def zrow (k : Nat) (g : Nat → Int32) : Nat → Int32 := fun j => if j < k then 0 else g j
theorem zrow_0 (g : Nat → Int32) : zrow 0 g = g := by funext j; simp [zrow]
theorem zrow_s (k : Nat) (g : Nat → Int32) : xup (zrow k g) k 0 = zrow (k + 1) g := by
  funext j
  by_cases h : j = k
  · subst h; rw [xup_s, zrow, if_pos (by omega)]
  · rw [xup_n _ _ h, zrow, zrow]
    by_cases h2 : j < k
    · rw [if_pos h2, if_pos (by omega)]
    · rw [if_neg h2, if_neg (by omega)]
def shHas (f : Nat → Int32) (i : Int32) : Bool := decide (0 ≤ i) && decide (i < f 2) && decide (i < 40)
def shRow (f : Nat → Int32) (i n : Int32) : Bool := decide (0 ≤ n) && decide (n ≤ f 2) && decide (0 ≤ i) && decide (i ≤ f 2 - n)
def shNar (sort v : Int32) : Int32 := if sort = 0 then v.toInt8.toInt32 else if sort = 1 then v.toInt16.toInt32 else v
def shBegin (I : xI) (s : Nat) (sort size : Int32) : xI := xup (xw (xw I s 1 sort) s 2 (xbd size 0 40)) (s + 1) (zrow 40 (I (s + 1)))
def shGet (I : xI) (s : Nat) (i : Int32) : Int32 := if shHas (I s) i = true then I (s + 1) i.toNatClampNeg else 0
def shPut (I : xI) (s : Nat) (i v : Int32) : xI := if shHas (I s) i = true then xw I (s + 1) i.toNatClampNeg (shNar (I s 1) v) else I
theorem c_Sheet_isMissing (l : Launch) (G : xG) {d : Nat} (nn : Nat) (Y : xY) (I : xI) (hd : 1 ≤ d) (s : Nat) (hs : Y s = some (sSheet s)) (hs1 : Y (s + 1) = some (sInts 40)) : XM l G d y_Sheet_isMissing b_Sheet_isMissing 1 (some .boolean) 0 0 xK0 [.ref (xg G s)] nn (xm G Y I) (some (.int (xb (decide (I s 1 = -1))))) nn (xm G Y (I)) := by
  refine XM.of (by decide) (Nat.le_of_ble_eq_true rfl) (L := [(0, .ref (xg G s))]) rfl ?_
  refine X_aload_n d_Sheet_isMissing_0 rfl rfl ?_
  refine X_getI (v := I s 1) fg_Sheet_15 hs rfl (rfl) d_Sheet_isMissing_1 ?_
  refine X_iconst (v := -1) d_Sheet_isMissing_4 rfl ?_
  refine X_icmp_ne (tgt := 12) d_Sheet_isMissing_5 (by decide) (fun c_1 => ?_) (fun c_1 => ?_)
  ·
    refine X_iconst (v := 0) d_Sheet_isMissing_12 rfl ?_
    exact X_zret rfl rfl (congrArg (fun q => some (Value.int q)) (by simp [xb, c_1])) (xle_rf _) d_Sheet_isMissing_13
  ·
    refine X_iconst (v := 1) d_Sheet_isMissing_8 rfl ?_
    refine X_goto (tgt := 13) d_Sheet_isMissing_9 (by decide) ?_
    exact X_zret rfl rfl (congrArg (fun q => some (Value.int q)) (by simp [xb, c_1])) (xle_rf _) d_Sheet_isMissing_13
theorem c_Sheet_has (l : Launch) (G : xG) {d : Nat} (nn : Nat) (Y : xY) (I : xI) (hd : 1 ≤ d) (s : Nat) (hs : Y s = some (sSheet s)) (hs1 : Y (s + 1) = some (sInts 40)) (i : Int32) : XM l G d y_Sheet_has b_Sheet_has 2 (some .boolean) 0 0 xK0 [.ref (xg G s), .int i] nn (xm G Y I) (some (.int (xb (shHas (I s) i)))) nn (xm G Y (I)) := by
  refine XM.of (by decide) (Nat.le_of_ble_eq_true rfl) (L := [(0, .ref (xg G s)), (1, .int i)]) rfl ?_
  refine X_iload_n d_Sheet_has_0 rfl rfl ?_
  refine X_if_lt (tgt := 25) d_Sheet_has_1 (by decide) (fun c_1 => ?_) (fun c_1 => ?_)
  ·
    refine X_iconst (v := 0) d_Sheet_has_25 rfl ?_
    exact X_zret rfl rfl (congrArg (fun q => some (Value.int q)) (by simp [xb, shHas, c_1, Int32.not_le.mpr c_1])) (xle_rf _) d_Sheet_has_26
  ·
    refine X_iload_n d_Sheet_has_4 rfl rfl ?_
    refine X_aload_n d_Sheet_has_5 rfl rfl ?_
    refine X_getI (v := I s 2) fg_Sheet_19 hs rfl (rfl) d_Sheet_has_6 ?_
    refine X_icmp_ge (tgt := 25) d_Sheet_has_9 (by decide) (fun c_2 => ?_) (fun c_2 => ?_)
    ·
      refine X_iconst (v := 0) d_Sheet_has_25 rfl ?_
      exact X_zret rfl rfl (congrArg (fun q => some (Value.int q)) (by simp [xb, shHas, c_1, Int32.not_lt.mp c_1, c_2, Int32.not_lt.mpr c_2])) (xle_rf _) d_Sheet_has_26
    ·
      refine X_iload_n d_Sheet_has_12 rfl rfl ?_
      refine X_aload_n d_Sheet_has_13 rfl rfl ?_
      refine X_getR (r := s + 1) fg_Sheet_9 hs rfl d_Sheet_has_14 ?_
      refine X_alenI (v := 40) hs1 rfl d_Sheet_has_17 ?_
      refine X_icmp_ge (tgt := 25) d_Sheet_has_18 (by decide) (fun c_3 => ?_) (fun c_3 => ?_)
      ·
        refine X_iconst (v := 0) d_Sheet_has_25 rfl ?_
        exact X_zret rfl rfl (congrArg (fun q => some (Value.int q)) (by simp [xb, shHas, c_1, Int32.not_lt.mp c_1, c_2, Int32.not_le.mp c_2, c_3, Int32.not_lt.mpr c_3])) (xle_rf _) d_Sheet_has_26
      ·
        refine X_iconst (v := 1) d_Sheet_has_21 rfl ?_
        refine X_goto (tgt := 26) d_Sheet_has_22 (by decide) ?_
        exact X_zret rfl rfl (congrArg (fun q => some (Value.int q)) (by simp [xb, shHas, c_1, Int32.not_lt.mp c_1, c_2, Int32.not_le.mp c_2, c_3, Int32.not_le.mp c_3])) (xle_rf _) d_Sheet_has_26
theorem c_Sheet_hasRow (l : Launch) (G : xG) {d : Nat} (nn : Nat) (Y : xY) (I : xI) (hd : 1 ≤ d) (s : Nat) (hs : Y s = some (sSheet s)) (hs1 : Y (s + 1) = some (sInts 40)) (i n : Int32) : XM l G d y_Sheet_hasRow b_Sheet_hasRow 3 (some .boolean) 0 0 xK0 [.ref (xg G s), .int i, .int n] nn (xm G Y I) (some (.int (xb (shRow (I s) i n)))) nn (xm G Y (I)) := by
  refine XM.of (by decide) (Nat.le_of_ble_eq_true rfl) (L := [(0, .ref (xg G s)), (1, .int i), (2, .int n)]) rfl ?_
  refine X_iload_n d_Sheet_hasRow_0 rfl rfl ?_
  refine X_if_lt (tgt := 30) d_Sheet_hasRow_1 (by decide) (fun c_1 => ?_) (fun c_1 => ?_)
  ·
    refine X_iconst (v := 0) d_Sheet_hasRow_30 rfl ?_
    exact X_zret rfl rfl (congrArg (fun q => some (Value.int q)) (by simp [xb, shRow, c_1, Int32.not_le.mpr c_1])) (xle_rf _) d_Sheet_hasRow_31
  ·
    refine X_iload_n d_Sheet_hasRow_4 rfl rfl ?_
    refine X_aload_n d_Sheet_hasRow_5 rfl rfl ?_
    refine X_getI (v := I s 2) fg_Sheet_19 hs rfl (rfl) d_Sheet_hasRow_6 ?_
    refine X_icmp_gt (tgt := 30) d_Sheet_hasRow_9 (by decide) (fun c_2 => ?_) (fun c_2 => ?_)
    ·
      refine X_iconst (v := 0) d_Sheet_hasRow_30 rfl ?_
      exact X_zret rfl rfl (congrArg (fun q => some (Value.int q)) (by simp [xb, shRow, c_1, Int32.not_lt.mp c_1, c_2, Int32.not_le.mpr c_2])) (xle_rf _) d_Sheet_hasRow_31
    ·
      refine X_iload_n d_Sheet_hasRow_12 rfl rfl ?_
      refine X_if_lt (tgt := 30) d_Sheet_hasRow_13 (by decide) (fun c_3 => ?_) (fun c_3 => ?_)
      ·
        refine X_iconst (v := 0) d_Sheet_hasRow_30 rfl ?_
        exact X_zret rfl rfl (congrArg (fun q => some (Value.int q)) (by simp [xb, shRow, c_1, Int32.not_lt.mp c_1, c_2, Int32.not_lt.mp c_2, c_3, Int32.not_le.mpr c_3])) (xle_rf _) d_Sheet_hasRow_31
      ·
        refine X_iload_n d_Sheet_hasRow_16 rfl rfl ?_
        refine X_aload_n d_Sheet_hasRow_17 rfl rfl ?_
        refine X_getI (v := I s 2) fg_Sheet_19 hs rfl (rfl) d_Sheet_hasRow_18 ?_
        refine X_iload_n d_Sheet_hasRow_21 rfl rfl ?_
        refine X_isub d_Sheet_hasRow_22 ?_
        refine X_icmp_gt (tgt := 30) d_Sheet_hasRow_23 (by decide) (fun c_4 => ?_) (fun c_4 => ?_)
        ·
          refine X_iconst (v := 0) d_Sheet_hasRow_30 rfl ?_
          exact X_zret rfl rfl (congrArg (fun q => some (Value.int q)) (by simp [xb, shRow, c_1, Int32.not_lt.mp c_1, c_2, Int32.not_lt.mp c_2, c_3, Int32.not_lt.mp c_3, c_4, Int32.not_le.mpr c_4])) (xle_rf _) d_Sheet_hasRow_31
        ·
          refine X_iconst (v := 1) d_Sheet_hasRow_26 rfl ?_
          refine X_goto (tgt := 31) d_Sheet_hasRow_27 (by decide) ?_
          exact X_zret rfl rfl (congrArg (fun q => some (Value.int q)) (by simp [xb, shRow, c_1, Int32.not_lt.mp c_1, c_2, Int32.not_lt.mp c_2, c_3, Int32.not_lt.mp c_3, c_4, Int32.not_lt.mp c_4])) (xle_rf _) d_Sheet_hasRow_31
theorem shHas_vp {f : Nat → Int32} {i : Int32} (h : shHas f i = true) : vp_in i 40 := by
  simp [shHas] at h
  exact xvp (B := 40) h.1.1 h.2 (by decide)
theorem c_Sheet_get (l : Launch) (G : xG) {d : Nat} (nn : Nat) (Y : xY) (I : xI) (hd : 2 ≤ d) (s : Nat) (hs : Y s = some (sSheet s)) (hs1 : Y (s + 1) = some (sInts 40)) (i : Int32) : XM l G d y_Sheet_get b_Sheet_get 2 (some .int) 0 0 xK0 [.ref (xg G s), .int i] nn (xm G Y I) (some (.int (shGet I s i))) nn (xm G Y (I)) := by
  refine XM.of (by decide) (Nat.le_of_ble_eq_true rfl) (L := [(0, .ref (xg G s)), (1, .int i)]) rfl ?_
  refine X_aload_n d_Sheet_get_0 rfl rfl ?_
  refine X_iload_n d_Sheet_get_1 rfl rfl ?_
  refine X_callV (v := .int (xb (shHas (I s) i))) (rest := []) (c_Sheet_has l G nn Y I (by omega) s hs hs1 i) lk_Sheet_has ml_Sheet_26 (xm_obj hs) rfl rfl (Nat.le_of_ble_eq_true rfl) (xRok (d' := d - 1) (by omega) (by decide)) ⟨Nat.le_refl _, Nat.le_refl _⟩ d_Sheet_get_2 rfl ?_
  refine X_ifb_eq (tgt := 17) d_Sheet_get_5 (by decide) (fun c_1 => ?_) (fun c_1 => ?_)
  ·
    refine X_iconst (v := 0) d_Sheet_get_17 rfl ?_
    exact X_iret rfl (congrArg (fun q => some (Value.int q)) (by simp [shGet, c_1])) (xle_rf _) d_Sheet_get_18
  ·
    refine X_aload_n d_Sheet_get_8 rfl rfl ?_
    refine X_getR (r := s + 1) fg_Sheet_9 hs rfl d_Sheet_get_9 ?_
    refine X_iload_n d_Sheet_get_12 rfl rfl ?_
    refine X_aldI (v := I (s + 1) i.toNatClampNeg) hs1 (shHas_vp c_1) (rfl) d_Sheet_get_13 ?_
    refine X_goto (tgt := 18) d_Sheet_get_14 (by decide) ?_
    exact X_iret rfl (congrArg (fun q => some (Value.int q)) (by simp [shGet, c_1])) (xle_rf _) d_Sheet_get_18
theorem c_Sheet_put (l : Launch) (G : xG) {d : Nat} (nn : Nat) (Y : xY) (I : xI) (hd : 2 ≤ d) (s : Nat) (hs : Y s = some (sSheet s)) (hs1 : Y (s + 1) = some (sInts 40)) (i v : Int32) : XM l G d y_Sheet_put b_Sheet_put 3 (none) 0 0 xK0 [.ref (xg G s), .int i, .int v] nn (xm G Y I) (none) nn (xm G Y (shPut I s i v)) := by
  refine XM.of (by decide) (Nat.le_of_ble_eq_true rfl) (L := [(0, .ref (xg G s)), (1, .int i), (2, .int v)]) rfl ?_
  refine X_aload_n d_Sheet_put_0 rfl rfl ?_
  refine X_iload_n d_Sheet_put_1 rfl rfl ?_
  refine X_callV (v := .int (xb (shHas (I s) i))) (rest := []) (c_Sheet_has l G nn Y I (by omega) s hs hs1 i) lk_Sheet_has ml_Sheet_26 (xm_obj hs) rfl rfl (Nat.le_of_ble_eq_true rfl) (xRok (d' := d - 1) (by omega) (by decide)) ⟨Nat.le_refl _, Nat.le_refl _⟩ d_Sheet_put_2 rfl ?_
  refine X_ifb_eq (tgt := 40) d_Sheet_put_5 (by decide) (fun c_1 => ?_) (fun c_1 => ?_)
  ·
    exact X_vret rfl rfl (xle_of (congrArg (xm G Y) (by simp [shPut, shNar, c_1]))) d_Sheet_put_40
  ·
    refine X_aload_n d_Sheet_put_8 rfl rfl ?_
    refine X_getR (r := s + 1) fg_Sheet_9 hs rfl d_Sheet_put_9 ?_
    refine X_iload_n d_Sheet_put_12 rfl rfl ?_
    refine X_aload_n d_Sheet_put_13 rfl rfl ?_
    refine X_getI (v := I s 1) fg_Sheet_15 hs rfl (rfl) d_Sheet_put_14 ?_
    refine X_if_ne (tgt := 25) d_Sheet_put_17 (by decide) (fun c_2 => ?_) (fun c_2 => ?_)
    ·
      refine X_aload_n d_Sheet_put_25 rfl rfl ?_
      refine X_getI (v := I s 1) fg_Sheet_15 hs rfl (rfl) d_Sheet_put_26 ?_
      refine X_iconst (v := 1) d_Sheet_put_29 rfl ?_
      refine X_icmp_ne (tgt := 38) d_Sheet_put_30 (by decide) (fun c_3 => ?_) (fun c_3 => ?_)
      ·
        refine X_iload_n d_Sheet_put_38 rfl rfl ?_
        refine X_astI hs1 (shHas_vp c_1) d_Sheet_put_39 ?_
        exact X_vret rfl rfl (xle_of (congrArg (xm G Y) (by simp [shPut, shNar, c_1, c_2, c_3]))) d_Sheet_put_40
      ·
        refine X_iload_n d_Sheet_put_33 rfl rfl ?_
        refine X_i2s d_Sheet_put_34 ?_
        refine X_goto (tgt := 39) d_Sheet_put_35 (by decide) ?_
        refine X_astI hs1 (shHas_vp c_1) d_Sheet_put_39 ?_
        exact X_vret rfl rfl (xle_of (congrArg (xm G Y) (by simp [shPut, shNar, c_1, c_2, c_3]))) d_Sheet_put_40
    ·
      refine X_iload_n d_Sheet_put_20 rfl rfl ?_
      refine X_i2b d_Sheet_put_21 ?_
      refine X_goto (tgt := 39) d_Sheet_put_22 (by decide) ?_
      refine X_astI hs1 (shHas_vp c_1) d_Sheet_put_39 ?_
      exact X_vret rfl rfl (xle_of (congrArg (xm G Y) (by simp [shPut, shNar, c_1, c_2]))) d_Sheet_put_40
def Q_Sheet_begin (l : Launch) (G : xG) (d nn : Nat) (Y : xY) (I : xI) (s : Nat) (sort size : Int32) (i : Nat) : Prop := XW l G (xR d 0 0) y_Sheet_begin b_Sheet_begin 4 (none) xK0 (xZ G nn (xm G Y (shBegin I s sort size)) (none) 0 0) nn (xm G Y (xup (xw (xw I s 1 sort) s 2 (xbd size 0 40)) (s + 1) (zrow i (I (s + 1))))) 0 0 21 [(0, .ref (xg G s)), (1, .int sort), (2, .int size), (3, .int (nI i))] []
theorem w_Sheet_begin (l : Launch) (G : xG) {d : Nat} (nn : Nat) (Y : xY) (I : xI) (hd : 3 ≤ d) (s : Nat) (hs : Y s = some (sSheet s)) (hs1 : Y (s + 1) = some (sInts 40)) (sort size : Int32) (i : Nat) (hi : i ≤ 40) (ih : i < 40 → Q_Sheet_begin l G d nn Y I s sort size (i + 1)) : Q_Sheet_begin l G d nn Y I s sort size i := by
  unfold Q_Sheet_begin
  refine X_iload_n d_Sheet_begin_21 rfl rfl ?_
  refine X_aload_n d_Sheet_begin_22 rfl rfl ?_
  refine X_getR (r := s + 1) fg_Sheet_9 hs rfl d_Sheet_begin_23 ?_
  refine X_alenI (v := 40) hs1 rfl d_Sheet_begin_26 ?_
  refine X_icmp_ge (tgt := 43) d_Sheet_begin_27 (by decide) (fun c_1 => ?_) (fun c_1 => ?_)
  ·
    have hdone : i = 40 := nI_done hi (by decide) c_1
    subst hdone
    exact X_vret rfl rfl (xle_rf _) d_Sheet_begin_43
  ·
    refine X_aload_n d_Sheet_begin_30 rfl rfl ?_
    refine X_getR (r := s + 1) fg_Sheet_9 hs rfl d_Sheet_begin_31 ?_
    refine X_iload_n d_Sheet_begin_34 rfl rfl ?_
    refine X_iconst (v := 0) d_Sheet_begin_35 rfl ?_
    refine X_astI hs1 (vp_in_nI (nI_more hi (by decide) c_1) (by decide)) d_Sheet_begin_36 ?_
    rw [nI_cl (show i < 2 ^ 31 by omega)]
    refine X_iinc d_Sheet_begin_37 rfl (v := (nI i) + 1) rfl (by decide) [1, 2, 3, 0] (L' := [(0, .ref (xg G s)), (1, .int sort), (2, .int size), (3, .int ((nI i) + 1))]) rfl ?_
    refine X_goto (tgt := 21) d_Sheet_begin_40 (by decide) ?_
    rw [nI_1, xw_rec, zrow_s]
    exact ih (nI_more hi (by decide) c_1)
theorem c_Sheet_begin (l : Launch) (G : xG) {d : Nat} (nn : Nat) (Y : xY) (I : xI) (hd : 3 ≤ d) (s : Nat) (hs : Y s = some (sSheet s)) (hs1 : Y (s + 1) = some (sInts 40)) (sort size : Int32) : XM l G d y_Sheet_begin b_Sheet_begin 4 (none) 0 0 xK0 [.ref (xg G s), .int sort, .int size] nn (xm G Y I) (none) nn (xm G Y (shBegin I s sort size)) := by
  refine XM.of (by decide) (Nat.le_of_ble_eq_true rfl) (L := [(0, .ref (xg G s)), (1, .int sort), (2, .int size)]) rfl ?_
  refine X_aload_n d_Sheet_begin_0 rfl rfl ?_
  refine X_iload_n d_Sheet_begin_1 rfl rfl ?_
  refine X_putI fp_Sheet_15 hs rfl d_Sheet_begin_2 ?_
  refine X_aload_n d_Sheet_begin_5 rfl rfl ?_
  refine X_iload_n d_Sheet_begin_6 rfl rfl ?_
  refine X_iconst (v := 0) d_Sheet_begin_7 rfl ?_
  refine X_aload_n d_Sheet_begin_8 rfl rfl ?_
  refine X_getR (r := s + 1) fg_Sheet_9 hs rfl d_Sheet_begin_9 ?_
  refine X_alenI (v := 40) hs1 rfl d_Sheet_begin_12 ?_
  refine X_callSN (v := .int (xbd size 0 40)) (rest := [.ref (xg G s)]) (c_X_bounded l G nn _ (by omega) size 0 40 (by decide)) lk_X_bounded mn_Sheet_22 rfl (Nat.le_of_ble_eq_true rfl) (xRok (d' := d - 1) (by omega) (by decide)) ⟨Nat.le_refl _, Nat.le_refl _⟩ d_Sheet_begin_13 rfl ?_
  refine X_putI fp_Sheet_19 hs rfl d_Sheet_begin_16 ?_
  refine X_iconst (v := 0) d_Sheet_begin_19 rfl ?_
  refine X_istore_n d_Sheet_begin_20 rfl (by decide) [1, 2, 3, 0] (L' := [(0, .ref (xg G s)), (1, .int sort), (2, .int size), (3, .int 0)]) rfl ?_
  have hq := xloop (T := 40) (fun i hi ih => w_Sheet_begin l G nn Y I hd s hs hs1 sort size i hi ih) 0 (Nat.zero_le _)
  unfold Q_Sheet_begin at hq
  rw [zrow_0, show I (s + 1) = (xw (xw I s 1 sort) s 2 (xbd size 0 40)) (s + 1) from by rw [xw_row _ _ _ (show s + 1 ≠ s by omega), xw_row _ _ _ (show s + 1 ≠ s by omega)], xup_self] at hq
  exact hq
