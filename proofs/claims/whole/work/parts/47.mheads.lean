theorem cIdx {h : Int32} {n : Nat} (hn : n < 1000) (hb : xin h 0 (nI n - 1) = true) : ∃ i, i < n ∧ h = nI i := by
  rw [xin_iff] at hb
  obtain ⟨i, hi, rfl⟩ := nI_of (Int32.not_lt.mpr hb.1)
  refine ⟨i, ?_, rfl⟩
  match n, hn with
  | 0, _ => exact absurd (Int32.le_trans hb.1 hb.2) (by decide)
  | n + 1, _ => rw [nI_pred] at hb; have := (nI_leI hi (by omega)).mp hb.2; omega
def msOK (I : xI) (sz : Nat → Nat) : Prop := ∀ q, q < 4 → I 68 q = nI (sz q) ∧ sz q ≤ 40
def aCellM (I : xI) (s x v : Int32) : Int32 := if rSheet (I 67) s = 0 then (if xin x 0 (I 68 s.toNatClampNeg - 1) = true then 1 else -12) else rSheet (I 67) s
def mCellM (I : xI) (s x v : Int32) : xI := if rSheet (I 67) s = 0 then (if xin x 0 (I 68 s.toNatClampNeg - 1) = true then xw I 69 (40 * s.toNatClampNeg + x.toNatClampNeg) (shNar (I 67 s.toNatClampNeg) v) else I) else I
theorem c_Model_cell (l : Launch) (G : xG) {d : Nat} (nn : Nat) (hd : 2 ≤ d) (I : xI) (hc tc ln : Nat) (SS : Nat → xSay) (hK0 : mOK I hc tc ln SS) (sz : Nat → Nat) (hsz : msOK I sz) (s x v : Int32) : XM l G d y_Model_cell b_Model_cell 4 (some .int) 0 0 xK0 [.ref (xg G 59), .int s, .int x, .int v] nn (xm G xYf I) (some (.int (aCellM I s x v))) nn (xm G xYf (mCellM I s x v)) := by
  obtain ⟨⟨h0, h5⟩, ⟨h8, h6⟩, ⟨h9, hl⟩, hTs, hR⟩ := id hK0
  have hK : mK I ln (SS ln) := ⟨hTs ln hl, h9, by omega⟩
  generalize hSS : SS ln = S at hK ⊢
  refine XM.of (by decide) (Nat.le_of_ble_eq_true rfl) (L := [(0, .ref (xg G 59)), (1, .int s), (2, .int x), (3, .int v)]) rfl ?_
  refine X_iload_n d_Model_cell_0 rfl rfl ?_
  refine X_iconst (v := 0) d_Model_cell_1 rfl ?_
  refine X_iconst (v := 3) d_Model_cell_2 rfl ?_
  refine X_callS (v := .int (xb (xin s 0 3))) (rest := []) (c_Model_in l G nn _ (by omega) s 0 3) lk_Model_in ml_Model_66 rfl (Nat.le_of_ble_eq_true rfl) (xRok (d' := d - 1) (by omega) (by decide)) ⟨Nat.le_refl _, Nat.le_refl _⟩ d_Model_cell_3 rfl ?_
  refine X_ifb_ne (tgt := 12) d_Model_cell_6 (by decide) (fun c_1 => ?_) (fun c_1 => ?_)
  ·
    obtain ⟨q, hq0, rfl⟩ := cTop (n := 3) (by decide) c_1
    have hq : q < 4 := by omega
    refine X_aload_n d_Model_cell_12 rfl rfl ?_
    refine X_getR (r := 67) fg_Model_31 (show xYf 59 = some sModel from rfl) rfl d_Model_cell_13 ?_
    refine X_iload_n d_Model_cell_16 rfl rfl ?_
    refine X_aldI (v := I 67 q) (show xYf 67 = some (sInts 4) from rfl) (ixin (show nI q = nI q from rfl) (show q < 4 by omega) (by decide)) ((ixv (show nI q = nI q from rfl) (show q < 2 ^ 31 by omega) (rfl))) d_Model_cell_17 ?_
    refine X_iconst (v := -1) d_Model_cell_18 rfl ?_
    refine X_icmp_ne (tgt := 25) d_Model_cell_19 (by decide) (fun c_2 => ?_) (fun c_2 => ?_)
    ·
      have hzq := (hsz q hq).1
      have hz4 := (hsz q hq).2
      refine X_iload_n d_Model_cell_25 rfl rfl ?_
      refine X_iconst (v := 0) d_Model_cell_26 rfl ?_
      refine X_aload_n d_Model_cell_27 rfl rfl ?_
      refine X_getR (r := 68) fg_Model_34 (show xYf 59 = some sModel from rfl) rfl d_Model_cell_28 ?_
      refine X_iload_n d_Model_cell_31 rfl rfl ?_
      refine X_aldI (v := nI (sz q)) (show xYf 68 = some (sInts 4) from rfl) (ixin (show nI q = nI q from rfl) (show q < 4 by omega) (by decide)) ((ixv (show nI q = nI q from rfl) (show q < 2 ^ 31 by omega) ((hsz q hq).1))) d_Model_cell_32 ?_
      refine X_iconst (v := 1) d_Model_cell_33 rfl ?_
      refine X_isub d_Model_cell_34 ?_
      refine X_callS (v := .int (xb (xin x 0 ((nI (sz q)) - 1)))) (rest := []) (c_Model_in l G nn _ (by omega) x 0 ((nI (sz q)) - 1)) lk_Model_in ml_Model_66 rfl (Nat.le_of_ble_eq_true rfl) (xRok (d' := d - 1) (by omega) (by decide)) ⟨Nat.le_refl _, Nat.le_refl _⟩ d_Model_cell_35 rfl ?_
      refine X_ifb_ne (tgt := 44) d_Model_cell_38 (by decide) (fun c_3 => ?_) (fun c_3 => ?_)
      ·
        obtain ⟨k, hk, rfl⟩ := cIdx (by omega) c_3
        refine X_aload_n d_Model_cell_44 rfl rfl ?_
        refine X_getR (r := 69) fg_Model_37 (show xYf 59 = some sModel from rfl) rfl d_Model_cell_45 ?_
        refine X_bipush (v := 40) d_Model_cell_48 rfl ?_
        refine X_iload_n d_Model_cell_50 rfl rfl ?_
        refine X_imul d_Model_cell_51 ?_
        refine X_iload_n d_Model_cell_52 rfl rfl ?_
        refine X_iadd d_Model_cell_53 ?_
        refine X_aload_n d_Model_cell_54 rfl rfl ?_
        refine X_getR (r := 67) fg_Model_31 (show xYf 59 = some sModel from rfl) rfl d_Model_cell_55 ?_
        refine X_iload_n d_Model_cell_58 rfl rfl ?_
        refine X_aldI (v := I 67 q) (show xYf 67 = some (sInts 4) from rfl) (ixin (show nI q = nI q from rfl) (show q < 4 by omega) (by decide)) ((ixv (show nI q = nI q from rfl) (show q < 2 ^ 31 by omega) (rfl))) d_Model_cell_59 ?_
        refine X_if_ne (tgt := 68) d_Model_cell_60 (by decide) (fun c_4 => ?_) (fun c_4 => ?_)
        ·
          refine X_aload_n d_Model_cell_68 rfl rfl ?_
          refine X_getR (r := 67) fg_Model_31 (show xYf 59 = some sModel from rfl) rfl d_Model_cell_69 ?_
          refine X_iload_n d_Model_cell_72 rfl rfl ?_
          refine X_aldI (v := I 67 q) (show xYf 67 = some (sInts 4) from rfl) (ixin (show nI q = nI q from rfl) (show q < 4 by omega) (by decide)) ((ixv (show nI q = nI q from rfl) (show q < 2 ^ 31 by omega) (rfl))) d_Model_cell_73 ?_
          refine X_iconst (v := 1) d_Model_cell_74 rfl ?_
          refine X_icmp_ne (tgt := 83) d_Model_cell_75 (by decide) (fun c_5 => ?_) (fun c_5 => ?_)
          ·
            refine X_iload_n d_Model_cell_83 rfl rfl ?_
            refine X_astI (show xYf 69 = some (sInts 160) from rfl) (ixin (ixA (ixM (show (40 : Int32) = nI 40 from rfl) (show nI q = nI q from rfl)) (show nI k = nI k from rfl)) (show 40 * q + k < 160 by omega) (by decide)) d_Model_cell_84 ?_
            rw [ixcl (x := (40 * (nI q)) + (nI k)) (ixA (ixM (show (40 : Int32) = nI 40 from rfl) (show nI q = nI q from rfl)) (show nI k = nI k from rfl)) (show 40 * q + k < 2 ^ 31 by omega)]
            refine X_iconst (v := 1) d_Model_cell_85 rfl ?_
            exact X_iret rfl (congrArg (fun q => some (Value.int q)) (by subst hSS; simp [aCellM, rSheet, c_1, nI_cl (show q < 2 ^ 31 by omega), c_2, c_3, nI_cl (show k < 2 ^ 31 by omega), c_4, c_5, hzq])) (xle_of (congrArg (xm G xYf) (by subst hSS; simp [mCellM, rSheet, shNar, c_1, nI_cl (show q < 2 ^ 31 by omega), c_2, c_3, nI_cl (show k < 2 ^ 31 by omega), c_4, c_5, hzq]))) d_Model_cell_86
          ·
            refine X_iload_n d_Model_cell_78 rfl rfl ?_
            refine X_i2s d_Model_cell_79 ?_
            refine X_goto (tgt := 84) d_Model_cell_80 (by decide) ?_
            refine X_astI (show xYf 69 = some (sInts 160) from rfl) (ixin (ixA (ixM (show (40 : Int32) = nI 40 from rfl) (show nI q = nI q from rfl)) (show nI k = nI k from rfl)) (show 40 * q + k < 160 by omega) (by decide)) d_Model_cell_84 ?_
            rw [ixcl (x := (40 * (nI q)) + (nI k)) (ixA (ixM (show (40 : Int32) = nI 40 from rfl) (show nI q = nI q from rfl)) (show nI k = nI k from rfl)) (show 40 * q + k < 2 ^ 31 by omega)]
            refine X_iconst (v := 1) d_Model_cell_85 rfl ?_
            exact X_iret rfl (congrArg (fun q => some (Value.int q)) (by subst hSS; simp [aCellM, rSheet, c_1, nI_cl (show q < 2 ^ 31 by omega), c_2, c_3, nI_cl (show k < 2 ^ 31 by omega), c_4, c_5, hzq])) (xle_of (congrArg (xm G xYf) (by subst hSS; simp [mCellM, rSheet, shNar, c_1, nI_cl (show q < 2 ^ 31 by omega), c_2, c_3, nI_cl (show k < 2 ^ 31 by omega), c_4, c_5, hzq]))) d_Model_cell_86
        ·
          refine X_iload_n d_Model_cell_63 rfl rfl ?_
          refine X_i2b d_Model_cell_64 ?_
          refine X_goto (tgt := 84) d_Model_cell_65 (by decide) ?_
          refine X_astI (show xYf 69 = some (sInts 160) from rfl) (ixin (ixA (ixM (show (40 : Int32) = nI 40 from rfl) (show nI q = nI q from rfl)) (show nI k = nI k from rfl)) (show 40 * q + k < 160 by omega) (by decide)) d_Model_cell_84 ?_
          rw [ixcl (x := (40 * (nI q)) + (nI k)) (ixA (ixM (show (40 : Int32) = nI 40 from rfl) (show nI q = nI q from rfl)) (show nI k = nI k from rfl)) (show 40 * q + k < 2 ^ 31 by omega)]
          refine X_iconst (v := 1) d_Model_cell_85 rfl ?_
          exact X_iret rfl (congrArg (fun q => some (Value.int q)) (by subst hSS; simp [aCellM, rSheet, c_1, nI_cl (show q < 2 ^ 31 by omega), c_2, c_3, nI_cl (show k < 2 ^ 31 by omega), c_4, hzq])) (xle_of (congrArg (xm G xYf) (by subst hSS; simp [mCellM, rSheet, shNar, c_1, nI_cl (show q < 2 ^ 31 by omega), c_2, c_3, nI_cl (show k < 2 ^ 31 by omega), c_4, hzq]))) d_Model_cell_86
      ·
        refine X_bipush (v := -12) d_Model_cell_41 rfl ?_
        exact X_iret rfl (congrArg (fun q => some (Value.int q)) (by subst hSS; simp [aCellM, rSheet, c_1, nI_cl (show q < 2 ^ 31 by omega), c_2, c_3, hzq])) (xle_of (congrArg (xm G xYf) (by subst hSS; simp [mCellM, rSheet, shNar, c_1, nI_cl (show q < 2 ^ 31 by omega), c_2, c_3, hzq]))) d_Model_cell_43
    ·
      refine X_bipush (v := -11) d_Model_cell_22 rfl ?_
      exact X_iret rfl (congrArg (fun q => some (Value.int q)) (by subst hSS; simp [aCellM, rSheet, c_1, nI_cl (show q < 2 ^ 31 by omega), c_2])) (xle_of (congrArg (xm G xYf) (by subst hSS; simp [mCellM, rSheet, shNar, c_1, nI_cl (show q < 2 ^ 31 by omega), c_2]))) d_Model_cell_24
  ·
    refine X_bipush (v := -2) d_Model_cell_9 rfl ?_
    exact X_iret rfl (congrArg (fun q => some (Value.int q)) (by subst hSS; simp [aCellM, rSheet, c_1])) (xle_of (congrArg (xm G xYf) (by subst hSS; simp [mCellM, rSheet, shNar, c_1]))) d_Model_cell_11
def mHeadM (I : xI) (hc : Nat) (kd more : Int32) : xI := if xin kd 0 5 = true ∧ xin more 0 9 = true then (if 5 ≤ hc then I else xw (xup (xw (xw I 60 hc kd) 61 hc more) 62 (zrg (6 * hc) 6 (I 62))) 59 0 (nI hc + 1)) else I
theorem mself62 {I J : xI} (h : J 62 = I 62) : xup J 62 (I 62) = J := by rw [← h, xup_self]
def Q_Model_head (l : Launch) (G : xG) (d nn : Nat) (I : xI) (hc : Nat) (kd more : Int32) (k : Nat) : Prop := XW l G (xR d 0 0) y_Model_head b_Model_head 4 (some .int) xK0 (xZ G nn (xm G xYf (xw (xup (xw (xw I 60 hc kd) 61 hc more) 62 (zrg (6 * hc) 6 (I 62))) 59 0 (nI hc + 1))) (some (.int (nI hc))) 0 0) nn (xm G xYf (xup (xw (xw I 60 hc kd) 61 hc more) 62 (zrg (6 * hc) k (I 62)))) 0 0 55 [(0, .ref (xg G 59)), (1, .int kd), (2, .int more), (3, .int (nI k))] []
theorem w_Model_head (l : Launch) (G : xG) {d : Nat} (nn : Nat) (I : xI) (hc : Nat) (h0 : I 59 0 = nI hc) (hc5 : hc < 5) (kd more : Int32) (k : Nat) (hk : k ≤ 6) (ih : k < 6 → Q_Model_head l G d nn I hc kd more (k + 1)) : Q_Model_head l G d nn I hc kd more k := by
  unfold Q_Model_head
  refine X_iload_n d_Model_head_55 rfl rfl ?_
  refine X_bipush (v := 6) d_Model_head_56 rfl ?_
  refine X_icmp_ge (tgt := 82) d_Model_head_58 (by decide) (fun c_1 => ?_) (fun c_1 => ?_)
  ·
    have hz : k = 6 := nI_done hk (by decide) c_1
    subst hz
    refine X_aload_n d_Model_head_82 rfl rfl ?_
    refine X_dup d_Model_head_83 rfl ?_
    refine X_getI (v := nI hc) fg_Model_63 (show xYf 59 = some sModel from rfl) rfl ((congrFun (xup_n _ _ (by decide)) _).trans (((congrFun (xw_row _ _ _ (by decide)) _).trans (congrFun (xw_row _ _ _ (by decide)) _)).trans h0)) d_Model_head_84 ?_
    refine X_iconst (v := 1) d_Model_head_87 rfl ?_
    refine X_iadd d_Model_head_88 ?_
    refine X_putI fp_Model_63 (show xYf 59 = some sModel from rfl) rfl d_Model_head_89 ?_
    refine X_aload_n d_Model_head_92 rfl rfl ?_
    refine X_getI (v := (nI hc) + 1) fg_Model_63 (show xYf 59 = some sModel from rfl) rfl (xw_s _ _ _ _) d_Model_head_93 ?_
    refine X_iconst (v := 1) d_Model_head_96 rfl ?_
    refine X_isub d_Model_head_97 ?_
    exact X_iret rfl (by rw [nI_1, nI_pred]) (xle_rf _) d_Model_head_98
  ·
    have hlt : k < 6 := nI_more hk (by decide) c_1
    refine X_aload_n d_Model_head_61 rfl rfl ?_
    refine X_getR (r := 62) fg_Model_16 (show xYf 59 = some sModel from rfl) rfl d_Model_head_62 ?_
    refine X_bipush (v := 6) d_Model_head_65 rfl ?_
    refine X_aload_n d_Model_head_67 rfl rfl ?_
    refine X_getI (v := nI hc) fg_Model_63 (show xYf 59 = some sModel from rfl) rfl ((congrFun (xup_n _ _ (by decide)) _).trans (((congrFun (xw_row _ _ _ (by decide)) _).trans (congrFun (xw_row _ _ _ (by decide)) _)).trans h0)) d_Model_head_68 ?_
    refine X_imul d_Model_head_71 ?_
    refine X_iload_n d_Model_head_72 rfl rfl ?_
    refine X_iadd d_Model_head_73 ?_
    refine X_iconst (v := 0) d_Model_head_74 rfl ?_
    refine X_astI (show xYf 62 = some (sInts 30) from rfl) (ixin (ixA (ixM (show (6 : Int32) = nI 6 from rfl) (show nI hc = nI hc from rfl)) (show nI k = nI k from rfl)) (show 6 * hc + k < 30 by omega) (by decide)) d_Model_head_75 ?_
    rw [ixcl (x := (6 * (nI hc)) + (nI k)) (ixA (ixM (show (6 : Int32) = nI 6 from rfl) (show nI hc = nI hc from rfl)) (show nI k = nI k from rfl)) (show 6 * hc + k < 2 ^ 31 by omega)]
    rw [xw_rec]
    refine X_iinc d_Model_head_76 rfl (v := (nI k) + 1) rfl (by decide) [1, 2, 3, 0] (L' := [(0, .ref (xg G 59)), (1, .int kd), (2, .int more), (3, .int ((nI k) + 1))]) rfl ?_
    refine X_goto (tgt := 55) d_Model_head_79 (by decide) ?_
    have key := ih hlt
    unfold Q_Model_head at key
    rw [zrg_s, nI_1 k]
    exact key
theorem c_Model_head (l : Launch) (G : xG) {d : Nat} (nn : Nat) (hd : 2 ≤ d) (I : xI) (hc tc ln : Nat) (SS : Nat → xSay) (hK0 : mOK I hc tc ln SS) (kd more : Int32) : XM l G d y_Model_head b_Model_head 4 (some .int) 0 0 xK0 [.ref (xg G 59), .int kd, .int more] nn (xm G xYf I) (some (.int (aHead hc kd more))) nn (xm G xYf (mHeadM I hc kd more)) := by
  obtain ⟨⟨h0, h5⟩, ⟨h8, h6⟩, ⟨h9, hl⟩, hTs, hR⟩ := id hK0
  have hK : mK I ln (SS ln) := ⟨hTs ln hl, h9, by omega⟩
  generalize hSS : SS ln = S at hK ⊢
  refine XM.of (by decide) (Nat.le_of_ble_eq_true rfl) (L := [(0, .ref (xg G 59)), (1, .int kd), (2, .int more)]) rfl ?_
  refine X_iload_n d_Model_head_0 rfl rfl ?_
  refine X_iconst (v := 0) d_Model_head_1 rfl ?_
  refine X_iconst (v := 5) d_Model_head_2 rfl ?_
  refine X_callS (v := .int (xb (xin kd 0 5))) (rest := []) (c_Model_in l G nn _ (by omega) kd 0 5) lk_Model_in ml_Model_66 rfl (Nat.le_of_ble_eq_true rfl) (xRok (d' := d - 1) (by omega) (by decide)) ⟨Nat.le_refl _, Nat.le_refl _⟩ d_Model_head_3 rfl ?_
  refine X_ifb_eq (tgt := 19) d_Model_head_6 (by decide) (fun c_1 => ?_) (fun c_1 => ?_)
  ·
    refine X_bipush (v := -2) d_Model_head_19 rfl ?_
    exact X_iret rfl (congrArg (fun q => some (Value.int q)) (by subst hSS; first | (simp [aHead, c_1, xl_1_0, xl_1_1, xl_2_0, xl_2_1, xl_2_2, xl_3_0, xl_3_1, xl_3_2, xl_3_3]; done) | (exfalso; simp_all; done) | (clear hTs hR hK0 hK; simp_all [aHead]; done))) (xle_of (congrArg (xm G xYf) (by first | (subst hSS; simp [mHeadM, c_1]; done) | (exfalso; simp_all; done)))) d_Model_head_21
  ·
    refine X_iload_n d_Model_head_9 rfl rfl ?_
    refine X_iconst (v := 0) d_Model_head_10 rfl ?_
    refine X_bipush (v := 9) d_Model_head_11 rfl ?_
    refine X_callS (v := .int (xb (xin more 0 9))) (rest := []) (c_Model_in l G nn _ (by omega) more 0 9) lk_Model_in ml_Model_66 rfl (Nat.le_of_ble_eq_true rfl) (xRok (d' := d - 1) (by omega) (by decide)) ⟨Nat.le_refl _, Nat.le_refl _⟩ d_Model_head_13 rfl ?_
    refine X_ifb_ne (tgt := 22) d_Model_head_16 (by decide) (fun c_2 => ?_) (fun c_2 => ?_)
    ·
      refine X_aload_n d_Model_head_22 rfl rfl ?_
      refine X_getI (v := nI hc) fg_Model_63 (show xYf 59 = some sModel from rfl) rfl (h0) d_Model_head_23 ?_
      refine X_iconst (v := 5) d_Model_head_26 rfl ?_
      refine X_icmp_ne (tgt := 33) d_Model_head_27 (by decide) (fun c_3 => ?_) (fun c_3 => ?_)
      ·
        have hne : ¬ hc = 5 := fun z => c_3 ((nI_eq (a := hc) (b := 5) (by omega) (by decide)).mpr z)
        have hlt : hc < 5 := by omega
        refine X_aload_n d_Model_head_33 rfl rfl ?_
        refine X_getR (r := 60) fg_Model_7 (show xYf 59 = some sModel from rfl) rfl d_Model_head_34 ?_
        refine X_aload_n d_Model_head_37 rfl rfl ?_
        refine X_getI (v := nI hc) fg_Model_63 (show xYf 59 = some sModel from rfl) rfl (h0) d_Model_head_38 ?_
        refine X_iload_n d_Model_head_41 rfl rfl ?_
        refine X_astI (show xYf 60 = some (sInts 5) from rfl) (ixin (show nI hc = nI hc from rfl) (show hc < 5 by omega) (by decide)) d_Model_head_42 ?_
        rw [ixcl (x := nI hc) (show nI hc = nI hc from rfl) (show hc < 2 ^ 31 by omega)]
        refine X_aload_n d_Model_head_43 rfl rfl ?_
        refine X_getR (r := 61) fg_Model_13 (show xYf 59 = some sModel from rfl) rfl d_Model_head_44 ?_
        refine X_aload_n d_Model_head_47 rfl rfl ?_
        refine X_getI (v := nI hc) fg_Model_63 (show xYf 59 = some sModel from rfl) rfl ((xw_a _ _ _ _ (by decide)).trans (h0)) d_Model_head_48 ?_
        refine X_iload_n d_Model_head_51 rfl rfl ?_
        refine X_astI (show xYf 61 = some (sInts 5) from rfl) (ixin (show nI hc = nI hc from rfl) (show hc < 5 by omega) (by decide)) d_Model_head_52 ?_
        rw [ixcl (x := nI hc) (show nI hc = nI hc from rfl) (show hc < 2 ^ 31 by omega)]
        refine X_iconst (v := 0) d_Model_head_53 rfl ?_
        refine X_istore_n d_Model_head_54 rfl (by decide) [1, 2, 3, 0] (L' := [(0, .ref (xg G 59)), (1, .int kd), (2, .int more), (3, .int 0)]) rfl ?_
        have hx := xloop (T := 6) (fun k hk ih => w_Model_head (d := d) l G nn I hc h0 hlt kd more k hk ih) 0 (Nat.zero_le _)
        unfold Q_Model_head at hx
        rw [zrg_0, mself62 ((xw_row _ _ _ (by decide)).trans (xw_row _ _ _ (by decide)))] at hx
        have e1 : aHead hc kd more = nI hc := by rw [aHead, if_pos ⟨c_1, c_2⟩, if_neg (by omega)]
        have e2 : mHeadM I hc kd more = xw (xup (xw (xw I 60 hc kd) 61 hc more) 62 (zrg (6 * hc) 6 (I 62))) 59 0 (nI hc + 1) := by rw [mHeadM, if_pos ⟨c_1, c_2⟩, if_neg (by omega)]
        rw [e1, e2]
        exact hx
      ·
        have hge : 5 ≤ hc := by have := (nI_eq (a := hc) (b := 5) (by omega) (by decide)).mp c_3; omega
        refine X_bipush (v := -4) d_Model_head_30 rfl ?_
        exact X_iret rfl (congrArg (fun q => some (Value.int q)) (by subst hSS; first | (simp [aHead, c_1, c_2, c_3, hge, xl_1_0, xl_1_1, xl_2_0, xl_2_1, xl_2_2, xl_3_0, xl_3_1, xl_3_2, xl_3_3]; done) | (exfalso; simp_all; done) | (clear hTs hR hK0 hK; simp_all [aHead]; done))) (xle_of (congrArg (xm G xYf) (by first | (subst hSS; simp [mHeadM, c_1, c_2, c_3, hge]; done) | (exfalso; simp_all; done)))) d_Model_head_32
    ·
      refine X_bipush (v := -2) d_Model_head_19 rfl ?_
      exact X_iret rfl (congrArg (fun q => some (Value.int q)) (by subst hSS; first | (simp [aHead, c_1, c_2, xl_1_0, xl_1_1, xl_2_0, xl_2_1, xl_2_2, xl_3_0, xl_3_1, xl_3_2, xl_3_3]; done) | (exfalso; simp_all; done) | (clear hTs hR hK0 hK; simp_all [aHead]; done))) (xle_of (congrArg (xm G xYf) (by first | (subst hSS; simp [mHeadM, c_1, c_2]; done) | (exfalso; simp_all; done)))) d_Model_head_21
