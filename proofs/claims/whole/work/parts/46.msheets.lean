theorem c_Model_set (l : Launch) (G : xG) {d : Nat} (nn : Nat) (hd : 3 ≤ d) (I : xI) (hc tc ln : Nat) (SS : Nat → xSay) (hK0 : mOK I hc tc ln SS) (h what v : Int32) : XM l G d y_Model_set b_Model_set 5 (some .int) 0 0 xK0 [.ref (xg G 59), .int h, .int what, .int v] nn (xm G xYf I) (some (.int (aSet hc (mRow I) h what v))) nn (xm G xYf (if xin h 0 (nI hc - 1) = true then (if what = 0 ∧ xin v (-9999) 9999 = true then xw I 62 (6 * h.toNatClampNeg) v else if what = 1 ∧ xin v 0 9 = true then xw I 62 (6 * h.toNatClampNeg + 1) v else if what = 2 ∧ xin v 0 99 = true then xw I 62 (6 * h.toNatClampNeg + 2) v else I) else I)) := by
  obtain ⟨⟨h0, h5⟩, ⟨h8, h6⟩, ⟨h9, hl⟩, hTs, hR⟩ := id hK0
  have hK : mK I ln (SS ln) := ⟨hTs ln hl, h9, by omega⟩
  generalize hSS : SS ln = S at hK ⊢
  refine XM.of (by decide) (Nat.le_of_ble_eq_true rfl) (L := [(0, .ref (xg G 59)), (1, .int h), (2, .int what), (3, .int v)]) rfl ?_
  refine X_aload_n d_Model_set_0 rfl rfl ?_
  refine X_iload_n d_Model_set_1 rfl rfl ?_
  refine X_callV (v := .int (xb (xin h 0 (nI hc - 1)))) (rest := []) (c_Model_isHead l G nn (by omega) I hc tc ln SS hK0 h) lk_Model_isHead ml_Model_149 (xm_obj (show xYf 59 = some sModel from rfl)) rfl rfl (Nat.le_of_ble_eq_true rfl) (xRok (d' := d - 1) (by omega) (by decide)) ⟨Nat.le_refl _, Nat.le_refl _⟩ d_Model_set_2 rfl ?_
  refine X_ifb_ne (tgt := 11) d_Model_set_5 (by decide) (fun c_1 => ?_) (fun c_1 => ?_)
  ·
    obtain ⟨i, hi, rfl⟩ := cHead h5 c_1
    refine X_iload_n d_Model_set_11 rfl rfl ?_
    refine X_iconst (v := 0) d_Model_set_12 rfl ?_
    refine X_iconst (v := 2) d_Model_set_13 rfl ?_
    refine X_callS (v := .int (xb (xin what 0 2))) (rest := []) (c_Model_in l G nn _ (by omega) what 0 2) lk_Model_in ml_Model_66 rfl (Nat.le_of_ble_eq_true rfl) (xRok (d' := d - 1) (by omega) (by decide)) ⟨Nat.le_refl _, Nat.le_refl _⟩ d_Model_set_14 rfl ?_
    refine X_ifb_eq (tgt := 60) d_Model_set_17 (by decide) (fun c_2 => ?_) (fun c_2 => ?_)
    ·
      have n0 : ¬ what = 0 := fun z => by rw [z] at c_2; exact absurd c_2 (by decide)
      have n1 : ¬ what = 1 := fun z => by rw [z] at c_2; exact absurd c_2 (by decide)
      have n2 : ¬ what = 2 := fun z => by rw [z] at c_2; exact absurd c_2 (by decide)
      refine X_ldc cs_Model_157 d_Model_set_60 ?_
      exact X_iret rfl (congrArg (fun q => some (Value.int q)) (by subst hSS; first | (simp [aSet, mRow, c_1, nI_cl (show i < 2 ^ 31 by omega), c_2, n0, n1, n2, xl_1_0, xl_1_1, xl_2_0, xl_2_1, xl_2_2, xl_3_0, xl_3_1, xl_3_2, xl_3_3]; done) | (exfalso; simp_all; done) | (clear hTs hR hK0 hK; simp_all [aSet, mRow, nI_cl (show i < 2 ^ 31 by omega)]; done))) (xle_of (congrArg (xm G xYf) (by first | (subst hSS; simp [c_1, nI_cl (show i < 2 ^ 31 by omega), c_2, n0, n1, n2]; done) | (exfalso; simp_all; done)))) d_Model_set_62
    ·
      refine X_iload_n d_Model_set_20 rfl rfl ?_
      refine X_iload_n d_Model_set_21 rfl rfl ?_
      refine X_if_ne (tgt := 31) d_Model_set_22 (by decide) (fun c_3 => ?_) (fun c_3 => ?_)
      ·
        refine X_iconst (v := 0) d_Model_set_31 rfl ?_
        refine X_iload_n d_Model_set_32 rfl rfl ?_
        refine X_if_ne (tgt := 42) d_Model_set_33 (by decide) (fun _ => ?_) (fun c_4 => absurd c_4 c_3)
        refine X_iload_n d_Model_set_42 rfl rfl ?_
        refine X_iconst (v := 1) d_Model_set_43 rfl ?_
        refine X_icmp_ne (tgt := 52) d_Model_set_44 (by decide) (fun c_5 => ?_) (fun c_5 => ?_)
        ·
          refine X_bipush (v := 99) d_Model_set_52 rfl ?_
          refine X_callS (v := .int (xb (xin v 0 99))) (rest := []) (c_Model_in l G nn _ (by omega) v 0 99) lk_Model_in ml_Model_66 rfl (Nat.le_of_ble_eq_true rfl) (xRok (d' := d - 1) (by omega) (by decide)) ⟨Nat.le_refl _, Nat.le_refl _⟩ d_Model_set_54 rfl ?_
          refine X_ifb_ne (tgt := 63) d_Model_set_57 (by decide) (fun c_6 => ?_) (fun c_6 => ?_)
          ·
            have h2 : what = 2 := by have := x012 c_2; grind
            subst h2
            refine X_aload_n d_Model_set_63 rfl rfl ?_
            refine X_getR (r := 62) fg_Model_16 (show xYf 59 = some sModel from rfl) rfl d_Model_set_64 ?_
            refine X_bipush (v := 6) d_Model_set_67 rfl ?_
            refine X_iload_n d_Model_set_69 rfl rfl ?_
            refine X_imul d_Model_set_70 ?_
            refine X_iload_n d_Model_set_71 rfl rfl ?_
            refine X_iadd d_Model_set_72 ?_
            refine X_aldI (v := I 62 (6 * i + 2)) (show xYf 62 = some (sInts 30) from rfl) (ixin (ixA (ixM (show (6 : Int32) = nI 6 from rfl) (show nI i = nI i from rfl)) (show (2 : Int32) = nI 2 from rfl)) (show 6 * i + 2 < 30 by omega) (by decide)) ((ixv (ixA (ixM (show (6 : Int32) = nI 6 from rfl) (show nI i = nI i from rfl)) (show (2 : Int32) = nI 2 from rfl)) (show 6 * i + 2 < 2 ^ 31 by omega) (rfl))) d_Model_set_73 ?_
            refine X_istore d_Model_set_74 (by decide) [1, 2, 3, 4, 0] (L' := [(0, .ref (xg G 59)), (1, .int (nI i)), (2, .int 2), (3, .int v), (4, .int (I 62 (6 * i + 2)))]) rfl ?_
            refine X_aload_n d_Model_set_76 rfl rfl ?_
            refine X_getR (r := 62) fg_Model_16 (show xYf 59 = some sModel from rfl) rfl d_Model_set_77 ?_
            refine X_bipush (v := 6) d_Model_set_80 rfl ?_
            refine X_iload_n d_Model_set_82 rfl rfl ?_
            refine X_imul d_Model_set_83 ?_
            refine X_iload_n d_Model_set_84 rfl rfl ?_
            refine X_iadd d_Model_set_85 ?_
            refine X_iload_n d_Model_set_86 rfl rfl ?_
            refine X_astI (show xYf 62 = some (sInts 30) from rfl) (ixin (ixA (ixM (show (6 : Int32) = nI 6 from rfl) (show nI i = nI i from rfl)) (show (2 : Int32) = nI 2 from rfl)) (show 6 * i + 2 < 30 by omega) (by decide)) d_Model_set_87 ?_
            rw [ixcl (x := (6 * (nI i)) + 2) (ixA (ixM (show (6 : Int32) = nI 6 from rfl) (show nI i = nI i from rfl)) (show (2 : Int32) = nI 2 from rfl)) (show 6 * i + 2 < 2 ^ 31 by omega)]
            refine X_iload d_Model_set_88 rfl ?_
            exact X_iret rfl (congrArg (fun q => some (Value.int q)) (by subst hSS; first | (simp [aSet, mRow, c_1, nI_cl (show i < 2 ^ 31 by omega), c_2, c_3, c_5, c_6, xl_1_0, xl_1_1, xl_2_0, xl_2_1, xl_2_2, xl_3_0, xl_3_1, xl_3_2, xl_3_3]; done) | (exfalso; simp_all; done) | (clear hTs hR hK0 hK; simp_all [aSet, mRow, nI_cl (show i < 2 ^ 31 by omega)]; done))) (xle_of (congrArg (xm G xYf) (by first | (subst hSS; simp [c_1, nI_cl (show i < 2 ^ 31 by omega), c_2, c_3, c_5, c_6]; done) | (exfalso; simp_all; done)))) d_Model_set_90
          ·
            refine X_ldc cs_Model_157 d_Model_set_60 ?_
            exact X_iret rfl (congrArg (fun q => some (Value.int q)) (by subst hSS; first | (simp [aSet, mRow, c_1, nI_cl (show i < 2 ^ 31 by omega), c_2, c_3, c_5, c_6, xl_1_0, xl_1_1, xl_2_0, xl_2_1, xl_2_2, xl_3_0, xl_3_1, xl_3_2, xl_3_3]; done) | (exfalso; simp_all; done) | (clear hTs hR hK0 hK; simp_all [aSet, mRow, nI_cl (show i < 2 ^ 31 by omega)]; done))) (xle_of (congrArg (xm G xYf) (by first | (subst hSS; simp [c_1, nI_cl (show i < 2 ^ 31 by omega), c_2, c_3, c_5, c_6]; done) | (exfalso; simp_all; done)))) d_Model_set_62
        ·
          refine X_bipush (v := 9) d_Model_set_47 rfl ?_
          refine X_goto (tgt := 54) d_Model_set_49 (by decide) ?_
          refine X_callS (v := .int (xb (xin v 0 9))) (rest := []) (c_Model_in l G nn _ (by omega) v 0 9) lk_Model_in ml_Model_66 rfl (Nat.le_of_ble_eq_true rfl) (xRok (d' := d - 1) (by omega) (by decide)) ⟨Nat.le_refl _, Nat.le_refl _⟩ d_Model_set_54 rfl ?_
          refine X_ifb_ne (tgt := 63) d_Model_set_57 (by decide) (fun c_7 => ?_) (fun c_7 => ?_)
          ·
            subst c_5
            refine X_aload_n d_Model_set_63 rfl rfl ?_
            refine X_getR (r := 62) fg_Model_16 (show xYf 59 = some sModel from rfl) rfl d_Model_set_64 ?_
            refine X_bipush (v := 6) d_Model_set_67 rfl ?_
            refine X_iload_n d_Model_set_69 rfl rfl ?_
            refine X_imul d_Model_set_70 ?_
            refine X_iload_n d_Model_set_71 rfl rfl ?_
            refine X_iadd d_Model_set_72 ?_
            refine X_aldI (v := I 62 (6 * i + 1)) (show xYf 62 = some (sInts 30) from rfl) (ixin (ixA (ixM (show (6 : Int32) = nI 6 from rfl) (show nI i = nI i from rfl)) (show (1 : Int32) = nI 1 from rfl)) (show 6 * i + 1 < 30 by omega) (by decide)) ((ixv (ixA (ixM (show (6 : Int32) = nI 6 from rfl) (show nI i = nI i from rfl)) (show (1 : Int32) = nI 1 from rfl)) (show 6 * i + 1 < 2 ^ 31 by omega) (rfl))) d_Model_set_73 ?_
            refine X_istore d_Model_set_74 (by decide) [1, 2, 3, 4, 0] (L' := [(0, .ref (xg G 59)), (1, .int (nI i)), (2, .int 1), (3, .int v), (4, .int (I 62 (6 * i + 1)))]) rfl ?_
            refine X_aload_n d_Model_set_76 rfl rfl ?_
            refine X_getR (r := 62) fg_Model_16 (show xYf 59 = some sModel from rfl) rfl d_Model_set_77 ?_
            refine X_bipush (v := 6) d_Model_set_80 rfl ?_
            refine X_iload_n d_Model_set_82 rfl rfl ?_
            refine X_imul d_Model_set_83 ?_
            refine X_iload_n d_Model_set_84 rfl rfl ?_
            refine X_iadd d_Model_set_85 ?_
            refine X_iload_n d_Model_set_86 rfl rfl ?_
            refine X_astI (show xYf 62 = some (sInts 30) from rfl) (ixin (ixA (ixM (show (6 : Int32) = nI 6 from rfl) (show nI i = nI i from rfl)) (show (1 : Int32) = nI 1 from rfl)) (show 6 * i + 1 < 30 by omega) (by decide)) d_Model_set_87 ?_
            rw [ixcl (x := (6 * (nI i)) + 1) (ixA (ixM (show (6 : Int32) = nI 6 from rfl) (show nI i = nI i from rfl)) (show (1 : Int32) = nI 1 from rfl)) (show 6 * i + 1 < 2 ^ 31 by omega)]
            refine X_iload d_Model_set_88 rfl ?_
            exact X_iret rfl (congrArg (fun q => some (Value.int q)) (by subst hSS; first | (simp [aSet, mRow, c_1, nI_cl (show i < 2 ^ 31 by omega), c_2, c_3, c_7, xl_1_0, xl_1_1, xl_2_0, xl_2_1, xl_2_2, xl_3_0, xl_3_1, xl_3_2, xl_3_3]; done) | (exfalso; simp_all; done) | (clear hTs hR hK0 hK; simp_all [aSet, mRow, nI_cl (show i < 2 ^ 31 by omega)]; done))) (xle_of (congrArg (xm G xYf) (by first | (subst hSS; simp [c_1, nI_cl (show i < 2 ^ 31 by omega), c_2, c_3, c_7]; done) | (exfalso; simp_all; done)))) d_Model_set_90
          ·
            refine X_ldc cs_Model_157 d_Model_set_60 ?_
            exact X_iret rfl (congrArg (fun q => some (Value.int q)) (by subst hSS; first | (simp [aSet, mRow, c_1, nI_cl (show i < 2 ^ 31 by omega), c_2, c_3, c_5, c_7, xl_1_0, xl_1_1, xl_2_0, xl_2_1, xl_2_2, xl_3_0, xl_3_1, xl_3_2, xl_3_3]; done) | (exfalso; simp_all; done) | (clear hTs hR hK0 hK; simp_all [aSet, mRow, nI_cl (show i < 2 ^ 31 by omega)]; done))) (xle_of (congrArg (xm G xYf) (by first | (subst hSS; simp [c_1, nI_cl (show i < 2 ^ 31 by omega), c_2, c_3, c_5, c_7]; done) | (exfalso; simp_all; done)))) d_Model_set_62
      ·
        refine X_sipush (v := -9999) d_Model_set_25 rfl ?_
        refine X_goto (tgt := 32) d_Model_set_28 (by decide) ?_
        refine X_iload_n d_Model_set_32 rfl rfl ?_
        refine X_if_ne (tgt := 42) d_Model_set_33 (by decide) (fun c_8 => absurd c_3 c_8) (fun _ => ?_)
        refine X_sipush (v := 9999) d_Model_set_36 rfl ?_
        refine X_goto (tgt := 54) d_Model_set_39 (by decide) ?_
        refine X_callS (v := .int (xb (xin v (-9999) 9999))) (rest := []) (c_Model_in l G nn _ (by omega) v (-9999) 9999) lk_Model_in ml_Model_66 rfl (Nat.le_of_ble_eq_true rfl) (xRok (d' := d - 1) (by omega) (by decide)) ⟨Nat.le_refl _, Nat.le_refl _⟩ d_Model_set_54 rfl ?_
        refine X_ifb_ne (tgt := 63) d_Model_set_57 (by decide) (fun c_9 => ?_) (fun c_9 => ?_)
        ·
          subst c_3
          refine X_aload_n d_Model_set_63 rfl rfl ?_
          refine X_getR (r := 62) fg_Model_16 (show xYf 59 = some sModel from rfl) rfl d_Model_set_64 ?_
          refine X_bipush (v := 6) d_Model_set_67 rfl ?_
          refine X_iload_n d_Model_set_69 rfl rfl ?_
          refine X_imul d_Model_set_70 ?_
          refine X_iload_n d_Model_set_71 rfl rfl ?_
          refine X_iadd d_Model_set_72 ?_
          refine X_aldI (v := I 62 (6 * i + 0)) (show xYf 62 = some (sInts 30) from rfl) (ixin (ixA (ixM (show (6 : Int32) = nI 6 from rfl) (show nI i = nI i from rfl)) (show (0 : Int32) = nI 0 from rfl)) (show 6 * i + 0 < 30 by omega) (by decide)) ((ixv (ixA (ixM (show (6 : Int32) = nI 6 from rfl) (show nI i = nI i from rfl)) (show (0 : Int32) = nI 0 from rfl)) (show 6 * i + 0 < 2 ^ 31 by omega) (rfl))) d_Model_set_73 ?_
          refine X_istore d_Model_set_74 (by decide) [1, 2, 3, 4, 0] (L' := [(0, .ref (xg G 59)), (1, .int (nI i)), (2, .int 0), (3, .int v), (4, .int (I 62 (6 * i + 0)))]) rfl ?_
          refine X_aload_n d_Model_set_76 rfl rfl ?_
          refine X_getR (r := 62) fg_Model_16 (show xYf 59 = some sModel from rfl) rfl d_Model_set_77 ?_
          refine X_bipush (v := 6) d_Model_set_80 rfl ?_
          refine X_iload_n d_Model_set_82 rfl rfl ?_
          refine X_imul d_Model_set_83 ?_
          refine X_iload_n d_Model_set_84 rfl rfl ?_
          refine X_iadd d_Model_set_85 ?_
          refine X_iload_n d_Model_set_86 rfl rfl ?_
          refine X_astI (show xYf 62 = some (sInts 30) from rfl) (ixin (ixA (ixM (show (6 : Int32) = nI 6 from rfl) (show nI i = nI i from rfl)) (show (0 : Int32) = nI 0 from rfl)) (show 6 * i + 0 < 30 by omega) (by decide)) d_Model_set_87 ?_
          rw [ixcl (x := (6 * (nI i)) + 0) (ixA (ixM (show (6 : Int32) = nI 6 from rfl) (show nI i = nI i from rfl)) (show (0 : Int32) = nI 0 from rfl)) (show 6 * i + 0 < 2 ^ 31 by omega)]
          refine X_iload d_Model_set_88 rfl ?_
          exact X_iret rfl (congrArg (fun q => some (Value.int q)) (by subst hSS; first | (simp [aSet, mRow, c_1, nI_cl (show i < 2 ^ 31 by omega), c_2, c_9, xl_1_0, xl_1_1, xl_2_0, xl_2_1, xl_2_2, xl_3_0, xl_3_1, xl_3_2, xl_3_3]; done) | (exfalso; simp_all; done) | (clear hTs hR hK0 hK; simp_all [aSet, mRow, nI_cl (show i < 2 ^ 31 by omega)]; done))) (xle_of (congrArg (xm G xYf) (by first | (subst hSS; simp [c_1, nI_cl (show i < 2 ^ 31 by omega), c_2, c_9]; done) | (exfalso; simp_all; done)))) d_Model_set_90
        ·
          refine X_ldc cs_Model_157 d_Model_set_60 ?_
          exact X_iret rfl (congrArg (fun q => some (Value.int q)) (by subst hSS; first | (simp [aSet, mRow, c_1, nI_cl (show i < 2 ^ 31 by omega), c_2, c_3, c_9, xl_1_0, xl_1_1, xl_2_0, xl_2_1, xl_2_2, xl_3_0, xl_3_1, xl_3_2, xl_3_3]; done) | (exfalso; simp_all; done) | (clear hTs hR hK0 hK; simp_all [aSet, mRow, nI_cl (show i < 2 ^ 31 by omega)]; done))) (xle_of (congrArg (xm G xYf) (by first | (subst hSS; simp [c_1, nI_cl (show i < 2 ^ 31 by omega), c_2, c_3, c_9]; done) | (exfalso; simp_all; done)))) d_Model_set_62
  ·
    refine X_ldc cs_Model_156 d_Model_set_8 ?_
    exact X_iret rfl (congrArg (fun q => some (Value.int q)) (by subst hSS; first | (simp [aSet, mRow, c_1, xl_1_0, xl_1_1, xl_2_0, xl_2_1, xl_2_2, xl_3_0, xl_3_1, xl_3_2, xl_3_3]; done) | (exfalso; simp_all; done) | (clear hTs hR hK0 hK; simp_all [aSet, mRow]; done))) (xle_of (congrArg (xm G xYf) (by first | (subst hSS; simp [c_1]; done) | (exfalso; simp_all; done)))) d_Model_set_10
theorem c_Model_sheetWrong (l : Launch) (G : xG) {d : Nat} (nn : Nat) (hd : 2 ≤ d) (I : xI) (hc tc ln : Nat) (SS : Nat → xSay) (hK0 : mOK I hc tc ln SS) (s : Int32) : XM l G d y_Model_sheetWrong b_Model_sheetWrong 2 (some .int) 0 0 xK0 [.ref (xg G 59), .int s] nn (xm G xYf I) (some (.int (rSheet (I 67) s))) nn (xm G xYf (I)) := by
  obtain ⟨⟨h0, h5⟩, ⟨h8, h6⟩, ⟨h9, hl⟩, hTs, hR⟩ := id hK0
  have hK : mK I ln (SS ln) := ⟨hTs ln hl, h9, by omega⟩
  generalize hSS : SS ln = S at hK ⊢
  refine XM.of (by decide) (Nat.le_of_ble_eq_true rfl) (L := [(0, .ref (xg G 59)), (1, .int s)]) rfl ?_
  refine X_iload_n d_Model_sheetWrong_0 rfl rfl ?_
  refine X_iconst (v := 0) d_Model_sheetWrong_1 rfl ?_
  refine X_iconst (v := 3) d_Model_sheetWrong_2 rfl ?_
  refine X_callS (v := .int (xb (xin s 0 3))) (rest := []) (c_Model_in l G nn _ (by omega) s 0 3) lk_Model_in ml_Model_66 rfl (Nat.le_of_ble_eq_true rfl) (xRok (d' := d - 1) (by omega) (by decide)) ⟨Nat.le_refl _, Nat.le_refl _⟩ d_Model_sheetWrong_3 rfl ?_
  refine X_ifb_ne (tgt := 12) d_Model_sheetWrong_6 (by decide) (fun c_1 => ?_) (fun c_1 => ?_)
  ·
    obtain ⟨q, hq0, rfl⟩ := cTop (n := 3) (by decide) c_1
    have hq : q < 4 := by omega
    refine X_aload_n d_Model_sheetWrong_12 rfl rfl ?_
    refine X_getR (r := 67) fg_Model_31 (show xYf 59 = some sModel from rfl) rfl d_Model_sheetWrong_13 ?_
    refine X_iload_n d_Model_sheetWrong_16 rfl rfl ?_
    refine X_aldI (v := I 67 q) (show xYf 67 = some (sInts 4) from rfl) (ixin (show nI q = nI q from rfl) (show q < 4 by omega) (by decide)) ((ixv (show nI q = nI q from rfl) (show q < 2 ^ 31 by omega) (rfl))) d_Model_sheetWrong_17 ?_
    refine X_iconst (v := -1) d_Model_sheetWrong_18 rfl ?_
    refine X_icmp_ne (tgt := 27) d_Model_sheetWrong_19 (by decide) (fun c_2 => ?_) (fun c_2 => ?_)
    ·
      refine X_iconst (v := 0) d_Model_sheetWrong_27 rfl ?_
      exact X_iret rfl (congrArg (fun q => some (Value.int q)) (by subst hSS; first | (simp [rSheet, c_1, nI_cl (show q < 2 ^ 31 by omega), c_2, xl_1_0, xl_1_1, xl_2_0, xl_2_1, xl_2_2, xl_3_0, xl_3_1, xl_3_2, xl_3_3]; done) | (exfalso; simp_all; done) | (clear hTs hR hK0 hK; simp_all [rSheet, nI_cl (show q < 2 ^ 31 by omega)]; done))) (xle_rf _) d_Model_sheetWrong_28
    ·
      refine X_bipush (v := -11) d_Model_sheetWrong_22 rfl ?_
      refine X_goto (tgt := 28) d_Model_sheetWrong_24 (by decide) ?_
      exact X_iret rfl (congrArg (fun q => some (Value.int q)) (by subst hSS; first | (simp [rSheet, c_1, nI_cl (show q < 2 ^ 31 by omega), c_2, xl_1_0, xl_1_1, xl_2_0, xl_2_1, xl_2_2, xl_3_0, xl_3_1, xl_3_2, xl_3_3]; done) | (exfalso; simp_all; done) | (clear hTs hR hK0 hK; simp_all [rSheet, nI_cl (show q < 2 ^ 31 by omega)]; done))) (xle_rf _) d_Model_sheetWrong_28
  ·
    refine X_bipush (v := -2) d_Model_sheetWrong_9 rfl ?_
    exact X_iret rfl (congrArg (fun q => some (Value.int q)) (by subst hSS; first | (simp [rSheet, c_1, xl_1_0, xl_1_1, xl_2_0, xl_2_1, xl_2_2, xl_3_0, xl_3_1, xl_3_2, xl_3_3]; done) | (exfalso; simp_all; done) | (clear hTs hR hK0 hK; simp_all [rSheet]; done))) (xle_rf _) d_Model_sheetWrong_11
def zrg (b k : Nat) (g : Nat → Int32) : Nat → Int32 := fun j => if b ≤ j ∧ j < b + k then 0 else g j
theorem zrg_0 (b : Nat) (g : Nat → Int32) : zrg b 0 g = g := by
  funext j
  rw [zrg, if_neg (by omega)]
theorem zrg_s (b k : Nat) (g : Nat → Int32) : xup (zrg b k g) (b + k) 0 = zrg b (k + 1) g := by
  funext j
  by_cases h : j = b + k
  · subst h; rw [xup_s, zrg, if_pos (by omega)]
  · rw [xup_n _ _ h, zrg, zrg]
    by_cases h2 : b ≤ j ∧ j < b + k
    · rw [if_pos h2, if_pos (by omega)]
    · rw [if_neg h2, if_neg (by omega)]
theorem mself69 {I J : xI} (h : J 69 = I 69) : xup J 69 (I 69) = J := by rw [← h, xup_self]
def Q_Model_sheet (l : Launch) (G : xG) (d nn : Nat) (J : xI) (q : Nat) (sort n : Int32) (g : Nat → Int32) (k : Nat) : Prop := XW l G (xR d 0 0) y_Model_sheet b_Model_sheet 5 (some .int) xK0 (xZ G nn (xm G xYf (xup J 69 (zrg (40 * q) 40 g))) (some (.int 1)) 0 0) nn (xm G xYf (xup J 69 (zrg (40 * q) k g))) 0 0 70 [(0, .ref (xg G 59)), (1, .int (nI q)), (2, .int sort), (3, .int n), (4, .int (nI k))] []
theorem w_Model_sheet (l : Launch) (G : xG) {d : Nat} (nn : Nat) (J : xI) (q : Nat) (hq : q < 4) (sort n : Int32) (g : Nat → Int32) (k : Nat) (hk : k ≤ 40) (ih : k < 40 → Q_Model_sheet l G d nn J q sort n g (k + 1)) : Q_Model_sheet l G d nn J q sort n g k := by
  unfold Q_Model_sheet
  refine X_iload d_Model_sheet_70 rfl ?_
  refine X_bipush (v := 40) d_Model_sheet_72 rfl ?_
  refine X_icmp_ge (tgt := 96) d_Model_sheet_74 (by decide) (fun c_1 => ?_) (fun c_1 => ?_)
  ·
    refine X_iconst (v := 1) d_Model_sheet_96 rfl ?_
    have hz : k = 40 := nI_done hk (by decide) c_1
    subst hz
    exact X_iret rfl rfl (xle_rf _) d_Model_sheet_97
  ·
    have hlt : k < 40 := nI_more hk (by decide) c_1
    refine X_aload_n d_Model_sheet_77 rfl rfl ?_
    refine X_getR (r := 69) fg_Model_37 (show xYf 59 = some sModel from rfl) rfl d_Model_sheet_78 ?_
    refine X_bipush (v := 40) d_Model_sheet_81 rfl ?_
    refine X_iload_n d_Model_sheet_83 rfl rfl ?_
    refine X_imul d_Model_sheet_84 ?_
    refine X_iload d_Model_sheet_85 rfl ?_
    refine X_iadd d_Model_sheet_87 ?_
    refine X_iconst (v := 0) d_Model_sheet_88 rfl ?_
    refine X_astI (show xYf 69 = some (sInts 160) from rfl) (ixin (ixA (ixM (show (40 : Int32) = nI 40 from rfl) (show nI q = nI q from rfl)) (show nI k = nI k from rfl)) (show 40 * q + k < 160 by omega) (by decide)) d_Model_sheet_89 ?_
    rw [ixcl (x := (40 * (nI q)) + (nI k)) (ixA (ixM (show (40 : Int32) = nI 40 from rfl) (show nI q = nI q from rfl)) (show nI k = nI k from rfl)) (show 40 * q + k < 2 ^ 31 by omega)]
    rw [xw_rec]
    refine X_iinc d_Model_sheet_90 rfl (v := (nI k) + 1) rfl (by decide) [1, 2, 3, 4, 0] (L' := [(0, .ref (xg G 59)), (1, .int (nI q)), (2, .int sort), (3, .int n), (4, .int ((nI k) + 1))]) rfl ?_
    refine X_goto (tgt := 70) d_Model_sheet_93 (by decide) ?_
    have key := ih hlt
    unfold Q_Model_sheet at key
    rw [zrg_s, nI_1]
    exact key
def mSheetM (I : xI) (s sort n : Int32) : xI := if aSheet s sort n = 1 then xup (xw (xw I 67 s.toNatClampNeg sort) 68 s.toNatClampNeg (if sort = -1 then 0 else n)) 69 (zrg (40 * s.toNatClampNeg) 40 (I 69)) else I
theorem c_Model_sheet (l : Launch) (G : xG) {d : Nat} (nn : Nat) (hd : 3 ≤ d) (I : xI) (hc tc ln : Nat) (SS : Nat → xSay) (hK0 : mOK I hc tc ln SS) (s sort n : Int32) : XM l G d y_Model_sheet b_Model_sheet 5 (some .int) 0 0 xK0 [.ref (xg G 59), .int s, .int sort, .int n] nn (xm G xYf I) (some (.int (aSheet s sort n))) nn (xm G xYf (mSheetM I s sort n)) := by
  obtain ⟨⟨h0, h5⟩, ⟨h8, h6⟩, ⟨h9, hl⟩, hTs, hR⟩ := id hK0
  have hK : mK I ln (SS ln) := ⟨hTs ln hl, h9, by omega⟩
  generalize hSS : SS ln = S at hK ⊢
  refine XM.of (by decide) (Nat.le_of_ble_eq_true rfl) (L := [(0, .ref (xg G 59)), (1, .int s), (2, .int sort), (3, .int n)]) rfl ?_
  refine X_iload_n d_Model_sheet_0 rfl rfl ?_
  refine X_iconst (v := 0) d_Model_sheet_1 rfl ?_
  refine X_iconst (v := 3) d_Model_sheet_2 rfl ?_
  refine X_callS (v := .int (xb (xin s 0 3))) (rest := []) (c_Model_in l G nn _ (by omega) s 0 3) lk_Model_in ml_Model_66 rfl (Nat.le_of_ble_eq_true rfl) (xRok (d' := d - 1) (by omega) (by decide)) ⟨Nat.le_refl _, Nat.le_refl _⟩ d_Model_sheet_3 rfl ?_
  refine X_ifb_eq (tgt := 29) d_Model_sheet_6 (by decide) (fun c_1 => ?_) (fun c_1 => ?_)
  ·
    refine X_bipush (v := -2) d_Model_sheet_29 rfl ?_
    exact X_iret rfl (congrArg (fun q => some (Value.int q)) (by subst hSS; first | (simp [aSheet, xl_m1, c_1, xl_1_0, xl_1_1, xl_2_0, xl_2_1, xl_2_2, xl_3_0, xl_3_1, xl_3_2, xl_3_3]; done) | (exfalso; simp_all; done) | (clear hTs hR hK0 hK; simp_all [aSheet, xl_m1]; done))) (xle_of (congrArg (xm G xYf) (by first | (subst hSS; simp [mSheetM, aSheet, c_1]; done) | (exfalso; simp_all; done)))) d_Model_sheet_31
  ·
    obtain ⟨q, hq0, rfl⟩ := cTop (n := 3) (by decide) c_1
    have hq : q < 4 := by omega
    refine X_iload_n d_Model_sheet_9 rfl rfl ?_
    refine X_iconst (v := -1) d_Model_sheet_10 rfl ?_
    refine X_iconst (v := 2) d_Model_sheet_11 rfl ?_
    refine X_callS (v := .int (xb (xin sort (-1) 2))) (rest := []) (c_Model_in l G nn _ (by omega) sort (-1) 2) lk_Model_in ml_Model_66 rfl (Nat.le_of_ble_eq_true rfl) (xRok (d' := d - 1) (by omega) (by decide)) ⟨Nat.le_refl _, Nat.le_refl _⟩ d_Model_sheet_12 rfl ?_
    refine X_ifb_eq (tgt := 29) d_Model_sheet_15 (by decide) (fun c_2 => ?_) (fun c_2 => ?_)
    ·
      refine X_bipush (v := -2) d_Model_sheet_29 rfl ?_
      exact X_iret rfl (congrArg (fun q => some (Value.int q)) (by subst hSS; first | (simp [aSheet, xl_m1, c_1, nI_cl (show q < 2 ^ 31 by omega), c_2, xl_1_0, xl_1_1, xl_2_0, xl_2_1, xl_2_2, xl_3_0, xl_3_1, xl_3_2, xl_3_3]; done) | (exfalso; simp_all; done) | (clear hTs hR hK0 hK; simp_all [aSheet, xl_m1, nI_cl (show q < 2 ^ 31 by omega)]; done))) (xle_of (congrArg (xm G xYf) (by first | (subst hSS; simp [mSheetM, aSheet, c_1, nI_cl (show q < 2 ^ 31 by omega), c_2]; done) | (exfalso; simp_all; done)))) d_Model_sheet_31
    ·
      refine X_iload_n d_Model_sheet_18 rfl rfl ?_
      refine X_iconst (v := -1) d_Model_sheet_19 rfl ?_
      refine X_icmp_eq (tgt := 32) d_Model_sheet_20 (by decide) (fun c_3 => ?_) (fun c_3 => ?_)
      ·
        refine X_iload_n d_Model_sheet_32 rfl rfl ?_
        refine X_iconst (v := -1) d_Model_sheet_33 rfl ?_
        refine X_icmp_eq (tgt := 44) d_Model_sheet_34 (by decide) (fun _ => ?_) (fun c_4 => absurd c_3 c_4)
        refine X_aload_n d_Model_sheet_44 rfl rfl ?_
        refine X_getR (r := 67) fg_Model_31 (show xYf 59 = some sModel from rfl) rfl d_Model_sheet_45 ?_
        refine X_iload_n d_Model_sheet_48 rfl rfl ?_
        refine X_iload_n d_Model_sheet_49 rfl rfl ?_
        refine X_astI (show xYf 67 = some (sInts 4) from rfl) (ixin (show nI q = nI q from rfl) (show q < 4 by omega) (by decide)) d_Model_sheet_50 ?_
        rw [ixcl (x := (nI q)) (show nI q = nI q from rfl) (show q < 2 ^ 31 by omega)]
        refine X_aload_n d_Model_sheet_51 rfl rfl ?_
        refine X_getR (r := 68) fg_Model_34 (show xYf 59 = some sModel from rfl) rfl d_Model_sheet_52 ?_
        refine X_iload_n d_Model_sheet_55 rfl rfl ?_
        refine X_iload_n d_Model_sheet_56 rfl rfl ?_
        refine X_iconst (v := -1) d_Model_sheet_57 rfl ?_
        refine X_icmp_ne (tgt := 65) d_Model_sheet_58 (by decide) (fun c_5 => absurd c_3 c_5) (fun _ => ?_)
        refine X_iconst (v := 0) d_Model_sheet_61 rfl ?_
        refine X_goto (tgt := 66) d_Model_sheet_62 (by decide) ?_
        refine X_astI (show xYf 68 = some (sInts 4) from rfl) (ixin (show nI q = nI q from rfl) (show q < 4 by omega) (by decide)) d_Model_sheet_66 ?_
        rw [ixcl (x := (nI q)) (show nI q = nI q from rfl) (show q < 2 ^ 31 by omega)]
        refine X_iconst (v := 0) d_Model_sheet_67 rfl ?_
        refine X_istore d_Model_sheet_68 (by decide) [1, 2, 3, 4, 0] (L' := [(0, .ref (xg G 59)), (1, .int (nI q)), (2, .int sort), (3, .int n), (4, .int 0)]) rfl ?_
        have hx := xloop (T := 40) (fun k hk ih => w_Model_sheet (d := d) l G nn (xw (xw I 67 q sort) 68 q 0) q hq sort n (I 69) k hk ih) 0 (Nat.zero_le _)
        unfold Q_Model_sheet at hx
        have e3 : xup (xw (xw I 67 q sort) 68 q 0) 69 (I 69) = (xw (xw I 67 q sort) 68 q 0) := mself69 ((xw_row _ _ _ (by decide)).trans (xw_row _ _ _ (by decide)))
        rw [zrg_0, e3] at hx
        have e1 : aSheet (nI q) sort n = 1 := by subst hSS; first | (simp [aSheet, c_1, nI_cl (show q < 2 ^ 31 by omega), c_2, c_3]; done) | (simp_all [aSheet]; done)
        have e2 : mSheetM I (nI q) sort n = xup (xw (xw I 67 q sort) 68 q 0) 69 (zrg (40 * q) 40 (I 69)) := by rw [mSheetM, if_pos e1, nI_cl (show q < 2 ^ 31 by omega)]; first | (simp [c_1, nI_cl (show q < 2 ^ 31 by omega), c_2, c_3]; done) | (simp_all; done)
        rw [e1, e2]
        exact hx
      ·
        refine X_iload_n d_Model_sheet_23 rfl rfl ?_
        refine X_bipush (v := 40) d_Model_sheet_24 rfl ?_
        refine X_icmp_le (tgt := 32) d_Model_sheet_26 (by decide) (fun c_6 => ?_) (fun c_6 => ?_)
        ·
          refine X_iload_n d_Model_sheet_32 rfl rfl ?_
          refine X_iconst (v := -1) d_Model_sheet_33 rfl ?_
          refine X_icmp_eq (tgt := 44) d_Model_sheet_34 (by decide) (fun c_7 => absurd c_7 c_3) (fun _ => ?_)
          refine X_iload_n d_Model_sheet_37 rfl rfl ?_
          refine X_if_ge (tgt := 44) d_Model_sheet_38 (by decide) (fun c_8 => ?_) (fun c_8 => ?_)
          ·
            refine X_aload_n d_Model_sheet_44 rfl rfl ?_
            refine X_getR (r := 67) fg_Model_31 (show xYf 59 = some sModel from rfl) rfl d_Model_sheet_45 ?_
            refine X_iload_n d_Model_sheet_48 rfl rfl ?_
            refine X_iload_n d_Model_sheet_49 rfl rfl ?_
            refine X_astI (show xYf 67 = some (sInts 4) from rfl) (ixin (show nI q = nI q from rfl) (show q < 4 by omega) (by decide)) d_Model_sheet_50 ?_
            rw [ixcl (x := (nI q)) (show nI q = nI q from rfl) (show q < 2 ^ 31 by omega)]
            refine X_aload_n d_Model_sheet_51 rfl rfl ?_
            refine X_getR (r := 68) fg_Model_34 (show xYf 59 = some sModel from rfl) rfl d_Model_sheet_52 ?_
            refine X_iload_n d_Model_sheet_55 rfl rfl ?_
            refine X_iload_n d_Model_sheet_56 rfl rfl ?_
            refine X_iconst (v := -1) d_Model_sheet_57 rfl ?_
            refine X_icmp_ne (tgt := 65) d_Model_sheet_58 (by decide) (fun _ => ?_) (fun c_9 => absurd c_9 c_3)
            refine X_iload_n d_Model_sheet_65 rfl rfl ?_
            refine X_astI (show xYf 68 = some (sInts 4) from rfl) (ixin (show nI q = nI q from rfl) (show q < 4 by omega) (by decide)) d_Model_sheet_66 ?_
            rw [ixcl (x := (nI q)) (show nI q = nI q from rfl) (show q < 2 ^ 31 by omega)]
            refine X_iconst (v := 0) d_Model_sheet_67 rfl ?_
            refine X_istore d_Model_sheet_68 (by decide) [1, 2, 3, 4, 0] (L' := [(0, .ref (xg G 59)), (1, .int (nI q)), (2, .int sort), (3, .int n), (4, .int 0)]) rfl ?_
            have hx := xloop (T := 40) (fun k hk ih => w_Model_sheet (d := d) l G nn (xw (xw I 67 q sort) 68 q n) q hq sort n (I 69) k hk ih) 0 (Nat.zero_le _)
            unfold Q_Model_sheet at hx
            have e3 : xup (xw (xw I 67 q sort) 68 q n) 69 (I 69) = (xw (xw I 67 q sort) 68 q n) := mself69 ((xw_row _ _ _ (by decide)).trans (xw_row _ _ _ (by decide)))
            rw [zrg_0, e3] at hx
            have e1 : aSheet (nI q) sort n = 1 := by subst hSS; first | (simp [aSheet, c_1, nI_cl (show q < 2 ^ 31 by omega), c_2, c_3, c_6, Int32.not_lt.mpr c_6, c_8, Int32.not_lt.mpr c_8]; done) | (simp_all [aSheet]; done)
            have e2 : mSheetM I (nI q) sort n = xup (xw (xw I 67 q sort) 68 q n) 69 (zrg (40 * q) 40 (I 69)) := by rw [mSheetM, if_pos e1, nI_cl (show q < 2 ^ 31 by omega)]; first | (simp [c_1, nI_cl (show q < 2 ^ 31 by omega), c_2, c_3, c_6, Int32.not_lt.mpr c_6, c_8, Int32.not_lt.mpr c_8]; done) | (simp_all; done)
            rw [e1, e2]
            exact hx
          ·
            refine X_bipush (v := -14) d_Model_sheet_41 rfl ?_
            exact X_iret rfl (congrArg (fun q => some (Value.int q)) (by subst hSS; first | (simp [aSheet, xl_m1, c_1, nI_cl (show q < 2 ^ 31 by omega), c_2, c_3, c_6, Int32.not_lt.mpr c_6, c_8, Int32.not_le.mp c_8, xl_1_0, xl_1_1, xl_2_0, xl_2_1, xl_2_2, xl_3_0, xl_3_1, xl_3_2, xl_3_3]; done) | (exfalso; simp_all; done) | (clear hTs hR hK0 hK; simp_all [aSheet, xl_m1, nI_cl (show q < 2 ^ 31 by omega)]; done))) (xle_of (congrArg (xm G xYf) (by first | (subst hSS; simp [mSheetM, aSheet, c_1, nI_cl (show q < 2 ^ 31 by omega), c_2, c_3, c_6, Int32.not_lt.mpr c_6, c_8, Int32.not_le.mp c_8]; done) | (exfalso; simp_all; done)))) d_Model_sheet_43
        ·
          refine X_bipush (v := -2) d_Model_sheet_29 rfl ?_
          exact X_iret rfl (congrArg (fun q => some (Value.int q)) (by subst hSS; first | (simp [aSheet, xl_m1, c_1, nI_cl (show q < 2 ^ 31 by omega), c_2, c_3, c_6, Int32.not_le.mp c_6, xl_1_0, xl_1_1, xl_2_0, xl_2_1, xl_2_2, xl_3_0, xl_3_1, xl_3_2, xl_3_3]; done) | (exfalso; simp_all; done) | (clear hTs hR hK0 hK; simp_all [aSheet, xl_m1, nI_cl (show q < 2 ^ 31 by omega)]; done))) (xle_of (congrArg (xm G xYf) (by first | (subst hSS; simp [mSheetM, aSheet, c_1, nI_cl (show q < 2 ^ 31 by omega), c_2, c_3, c_6, Int32.not_le.mp c_6]; done) | (exfalso; simp_all; done)))) d_Model_sheet_31
