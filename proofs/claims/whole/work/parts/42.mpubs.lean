theorem ixSb {x : Int32} {a m : Nat} (h : x = nI (a + m)) : x - nI m = nI a := by
  have := nI_add a m
  grind
def mOK (I : xI) (hc tc ln : Nat) (S : Nat → xSay) : Prop := (I 59 0 = nI hc ∧ hc ≤ 5) ∧ (I 59 8 = nI tc ∧ tc ≤ 6) ∧ (I 59 9 = nI ln ∧ ln < tc) ∧ (∀ j, j < tc → mTx I j (S j)) ∧ ∀ i, i < 5 → (¬ I 61 i < 0 ∧ I 61 i ≤ 9) ∧ (I 62 (6 * i + 5) = 0 ∨ I 62 (6 * i + 5) = 1)
theorem c_Model_isHead (l : Launch) (G : xG) {d : Nat} (nn : Nat) (hd : 2 ≤ d) (I : xI) (hc tc ln : Nat) (S : Nat → xSay) (hK0 : mOK I hc tc ln S) (h : Int32) : XM l G d y_Model_isHead b_Model_isHead 2 (some .boolean) 0 0 xK0 [.ref (xg G 59), .int h] nn (xm G xYf I) (some (.int (xb (xin h 0 (nI hc - 1))))) nn (xm G xYf (I)) := by
  obtain ⟨⟨h0, h5⟩, ⟨h8, h6⟩, ⟨h9, hl⟩, hTs, hR⟩ := id hK0
  have hK : mK I ln (S ln) := ⟨hTs ln hl, h9, by omega⟩
  refine XM.of (by decide) (Nat.le_of_ble_eq_true rfl) (L := [(0, .ref (xg G 59)), (1, .int h)]) rfl ?_
  refine X_iload_n d_Model_isHead_0 rfl rfl ?_
  refine X_iconst (v := 0) d_Model_isHead_1 rfl ?_
  refine X_aload_n d_Model_isHead_2 rfl rfl ?_
  refine X_getI (v := nI hc) fg_Model_63 (show xYf 59 = some sModel from rfl) rfl (h0) d_Model_isHead_3 ?_
  refine X_iconst (v := 1) d_Model_isHead_6 rfl ?_
  refine X_isub d_Model_isHead_7 ?_
  refine X_callS (v := .int (xb (xin h 0 ((nI hc) - 1)))) (rest := []) (c_Model_in l G nn _ (by omega) h 0 ((nI hc) - 1)) lk_Model_in ml_Model_66 rfl (Nat.le_of_ble_eq_true rfl) (xRok (d' := d - 1) (by omega) (by decide)) ⟨Nat.le_refl _, Nat.le_refl _⟩ d_Model_isHead_8 rfl ?_
  exact X_zret rfl (xb_nar _) rfl (xle_rf _) d_Model_isHead_11
theorem c_Model_count (l : Launch) (G : xG) {d : Nat} (nn : Nat) (hd : 1 ≤ d) (I : xI) (hc tc ln : Nat) (S : Nat → xSay) (hK0 : mOK I hc tc ln S) (what : Int32) : XM l G d y_Model_count b_Model_count 2 (some .int) 0 0 xK0 [.ref (xg G 59), .int what] nn (xm G xYf I) (some (.int (aCount hc tc ln (I 59 5) what))) nn (xm G xYf (I)) := by
  obtain ⟨⟨h0, h5⟩, ⟨h8, h6⟩, ⟨h9, hl⟩, hTs, hR⟩ := id hK0
  have hK : mK I ln (S ln) := ⟨hTs ln hl, h9, by omega⟩
  refine XM.of (by decide) (Nat.le_of_ble_eq_true rfl) (L := [(0, .ref (xg G 59)), (1, .int what)]) rfl ?_
  refine X_iload_n d_Model_count_0 rfl rfl ?_
  by_cases c_1 : what = 0
  ·
    refine X_tableIn (tgt := 32) d_Model_count_1 (by rw [c_1]; decide) (by rw [c_1]; decide) (by rw [c_1]; rfl) (by decide) ?_
    refine X_aload_n d_Model_count_32 rfl rfl ?_
    refine X_getI (v := nI hc) fg_Model_63 (show xYf 59 = some sModel from rfl) rfl (h0) d_Model_count_33 ?_
    exact X_iret rfl (congrArg (fun q => some (Value.int q)) (by first | (simp [aCount, c_1, xl_1_0, xl_1_1, xl_2_0, xl_2_1, xl_2_2]; done) | (exfalso; simp_all; done) | (clear hTs hR hK0 hK; simp_all [aCount]; done))) (xle_rf _) d_Model_count_36
  by_cases c_2 : what = 1
  ·
    refine X_tableIn (tgt := 37) d_Model_count_1 (by rw [c_2]; decide) (by rw [c_2]; decide) (by rw [c_2]; rfl) (by decide) ?_
    refine X_aload_n d_Model_count_37 rfl rfl ?_
    refine X_getI (v := nI tc) fg_Model_70 (show xYf 59 = some sModel from rfl) rfl (h8) d_Model_count_38 ?_
    exact X_iret rfl (congrArg (fun q => some (Value.int q)) (by first | (simp [aCount, c_1, c_2, xl_1_0, xl_1_1, xl_2_0, xl_2_1, xl_2_2]; done) | (exfalso; simp_all; done) | (clear hTs hR hK0 hK; simp_all [aCount]; done))) (xle_rf _) d_Model_count_41
  by_cases c_3 : what = 2
  ·
    refine X_tableIn (tgt := 42) d_Model_count_1 (by rw [c_3]; decide) (by rw [c_3]; decide) (by rw [c_3]; rfl) (by decide) ?_
    refine X_aload_n d_Model_count_42 rfl rfl ?_
    refine X_getI (v := nI ln) fg_Model_73 (show xYf 59 = some sModel from rfl) rfl (h9) d_Model_count_43 ?_
    exact X_iret rfl (congrArg (fun q => some (Value.int q)) (by first | (simp [aCount, c_1, c_2, c_3, xl_1_0, xl_1_1, xl_2_0, xl_2_1, xl_2_2]; done) | (exfalso; simp_all; done) | (clear hTs hR hK0 hK; simp_all [aCount]; done))) (xle_rf _) d_Model_count_46
  by_cases c_4 : what = 3
  ·
    refine X_tableIn (tgt := 47) d_Model_count_1 (by rw [c_4]; decide) (by rw [c_4]; decide) (by rw [c_4]; rfl) (by decide) ?_
    refine X_aload_n d_Model_count_47 rfl rfl ?_
    refine X_getI (v := I 59 5) fg_Model_55 (show xYf 59 = some sModel from rfl) rfl (rfl) d_Model_count_48 ?_
    exact X_iret rfl (congrArg (fun q => some (Value.int q)) (by first | (simp [aCount, c_1, c_2, c_3, c_4, xl_1_0, xl_1_1, xl_2_0, xl_2_1, xl_2_2]; done) | (exfalso; simp_all; done) | (clear hTs hR hK0 hK; simp_all [aCount]; done))) (xle_rf _) d_Model_count_51
  refine X_tableOut (tgt := 52) d_Model_count_1 (xtout what (0) (3) (by decide) (by intro q h1 h2; have hq : q = 0 ∨ q = 1 ∨ q = 2 ∨ q = 3 := (by omega); rcases hq with rfl | rfl | rfl | rfl <;> first | exact c_1 | exact c_2 | exact c_3 | exact c_4)) (by decide) ?_
  refine X_bipush (v := -2) d_Model_count_52 rfl ?_
  exact X_iret rfl (congrArg (fun q => some (Value.int q)) (by first | (simp [aCount, c_1, c_2, c_3, c_4, xl_1_0, xl_1_1, xl_2_0, xl_2_1, xl_2_2]; done) | (exfalso; simp_all; done) | (clear hTs hR hK0 hK; simp_all [aCount]; done))) (xle_rf _) d_Model_count_54
theorem c_Model_force (l : Launch) (G : xG) {d : Nat} (nn : Nat) (hd : 2 ≤ d) (I : xI) (hc tc ln : Nat) (S : Nat → xSay) (hK0 : mOK I hc tc ln S) (t : Int32) : XM l G d y_Model_force b_Model_force 3 (some .int) 0 0 xK0 [.ref (xg G 59), .int t] nn (xm G xYf I) (some (.int (aForce tc ln t))) nn (xm G xYf (if xin t 0 (nI tc - 1) = true then xw I 59 9 t else I)) := by
  obtain ⟨⟨h0, h5⟩, ⟨h8, h6⟩, ⟨h9, hl⟩, hTs, hR⟩ := id hK0
  have hK : mK I ln (S ln) := ⟨hTs ln hl, h9, by omega⟩
  refine XM.of (by decide) (Nat.le_of_ble_eq_true rfl) (L := [(0, .ref (xg G 59)), (1, .int t)]) rfl ?_
  refine X_iload_n d_Model_force_0 rfl rfl ?_
  refine X_iconst (v := 0) d_Model_force_1 rfl ?_
  refine X_aload_n d_Model_force_2 rfl rfl ?_
  refine X_getI (v := nI tc) fg_Model_70 (show xYf 59 = some sModel from rfl) rfl (h8) d_Model_force_3 ?_
  refine X_iconst (v := 1) d_Model_force_6 rfl ?_
  refine X_isub d_Model_force_7 ?_
  refine X_callS (v := .int (xb (xin t 0 ((nI tc) - 1)))) (rest := []) (c_Model_in l G nn _ (by omega) t 0 ((nI tc) - 1)) lk_Model_in ml_Model_66 rfl (Nat.le_of_ble_eq_true rfl) (xRok (d' := d - 1) (by omega) (by decide)) ⟨Nat.le_refl _, Nat.le_refl _⟩ d_Model_force_8 rfl ?_
  refine X_ifb_ne (tgt := 17) d_Model_force_11 (by decide) (fun c_1 => ?_) (fun c_1 => ?_)
  ·
    refine X_aload_n d_Model_force_17 rfl rfl ?_
    refine X_getI (v := nI ln) fg_Model_73 (show xYf 59 = some sModel from rfl) rfl (h9) d_Model_force_18 ?_
    refine X_istore_n d_Model_force_21 rfl (by decide) [1, 2, 0] (L' := [(0, .ref (xg G 59)), (1, .int t), (2, .int (nI ln))]) rfl ?_
    refine X_aload_n d_Model_force_22 rfl rfl ?_
    refine X_iload_n d_Model_force_23 rfl rfl ?_
    refine X_putI fp_Model_73 (show xYf 59 = some sModel from rfl) rfl d_Model_force_24 ?_
    refine X_iload_n d_Model_force_27 rfl rfl ?_
    exact X_iret rfl (congrArg (fun q => some (Value.int q)) (by first | (simp [aForce, c_1, xl_1_0, xl_1_1, xl_2_0, xl_2_1, xl_2_2]; done) | (exfalso; simp_all; done) | (clear hTs hR hK0 hK; simp_all [aForce]; done))) (xle_of (congrArg (xm G xYf) (by first | (simp [c_1]; done) | (exfalso; simp_all; done)))) d_Model_force_28
  ·
    refine X_bipush (v := -2) d_Model_force_14 rfl ?_
    exact X_iret rfl (congrArg (fun q => some (Value.int q)) (by first | (simp [aForce, c_1, xl_1_0, xl_1_1, xl_2_0, xl_2_1, xl_2_2]; done) | (exfalso; simp_all; done) | (clear hTs hR hK0 hK; simp_all [aForce]; done))) (xle_of (congrArg (xm G xYf) (by first | (simp [c_1]; done) | (exfalso; simp_all; done)))) d_Model_force_16
theorem c_Model_up (l : Launch) (G : xG) {d : Nat} (nn : Nat) (hd : 3 ≤ d) (I : xI) (hc tc ln : Nat) (S : Nat → xSay) (hK0 : mOK I hc tc ln S) (h : Int32) : XM l G d y_Model_up b_Model_up 3 (some .int) 0 0 xK0 [.ref (xg G 59), .int h] nn (xm G xYf I) (some (.int (aUp hc (mRow I) h))) nn (xm G xYf (if xin h 0 (nI hc - 1) = true then xw (xw (xw I 62 (6 * h.toNatClampNeg + 3) 0) 62 (6 * h.toNatClampNeg + 4) 0) 62 (6 * h.toNatClampNeg + 5) 0 else I)) := by
  obtain ⟨⟨h0, h5⟩, ⟨h8, h6⟩, ⟨h9, hl⟩, hTs, hR⟩ := id hK0
  have hK : mK I ln (S ln) := ⟨hTs ln hl, h9, by omega⟩
  refine XM.of (by decide) (Nat.le_of_ble_eq_true rfl) (L := [(0, .ref (xg G 59)), (1, .int h)]) rfl ?_
  refine X_aload_n d_Model_up_0 rfl rfl ?_
  refine X_iload_n d_Model_up_1 rfl rfl ?_
  refine X_callV (v := .int (xb (xin h 0 (nI hc - 1)))) (rest := []) (c_Model_isHead l G nn (by omega) I hc tc ln S hK0 h) lk_Model_isHead ml_Model_149 (xm_obj (show xYf 59 = some sModel from rfl)) rfl rfl (Nat.le_of_ble_eq_true rfl) (xRok (d' := d - 1) (by omega) (by decide)) ⟨Nat.le_refl _, Nat.le_refl _⟩ d_Model_up_2 rfl ?_
  refine X_ifb_ne (tgt := 11) d_Model_up_5 (by decide) (fun c_1 => ?_) (fun c_1 => ?_)
  ·
    obtain ⟨i, hi, rfl⟩ := cHead h5 c_1
    refine X_aload_n d_Model_up_11 rfl rfl ?_
    refine X_getR (r := 62) fg_Model_16 (show xYf 59 = some sModel from rfl) rfl d_Model_up_12 ?_
    refine X_bipush (v := 6) d_Model_up_15 rfl ?_
    refine X_iload_n d_Model_up_17 rfl rfl ?_
    refine X_imul d_Model_up_18 ?_
    refine X_iconst (v := 4) d_Model_up_19 rfl ?_
    refine X_iadd d_Model_up_20 ?_
    refine X_aldI (v := I 62 (6 * i + 4)) (show xYf 62 = some (sInts 30) from rfl) (ixin (ixA (ixM (show (6 : Int32) = nI 6 from rfl) (show nI i = nI i from rfl)) (show (4 : Int32) = nI 4 from rfl)) (show 6 * i + 4 < 30 by omega) (by decide)) ((ixv (ixA (ixM (show (6 : Int32) = nI 6 from rfl) (show nI i = nI i from rfl)) (show (4 : Int32) = nI 4 from rfl)) (show 6 * i + 4 < 2 ^ 31 by omega) (rfl))) d_Model_up_21 ?_
    refine X_istore_n d_Model_up_22 rfl (by decide) [1, 2, 0] (L' := [(0, .ref (xg G 59)), (1, .int (nI i)), (2, .int (I 62 (6 * i + 4)))]) rfl ?_
    refine X_aload_n d_Model_up_23 rfl rfl ?_
    refine X_getR (r := 62) fg_Model_16 (show xYf 59 = some sModel from rfl) rfl d_Model_up_24 ?_
    refine X_bipush (v := 6) d_Model_up_27 rfl ?_
    refine X_iload_n d_Model_up_29 rfl rfl ?_
    refine X_imul d_Model_up_30 ?_
    refine X_iconst (v := 3) d_Model_up_31 rfl ?_
    refine X_iadd d_Model_up_32 ?_
    refine X_iconst (v := 0) d_Model_up_33 rfl ?_
    refine X_astI (show xYf 62 = some (sInts 30) from rfl) (ixin (ixA (ixM (show (6 : Int32) = nI 6 from rfl) (show nI i = nI i from rfl)) (show (3 : Int32) = nI 3 from rfl)) (show 6 * i + 3 < 30 by omega) (by decide)) d_Model_up_34 ?_
    rw [ixcl (x := (6 * (nI i)) + 3) (ixA (ixM (show (6 : Int32) = nI 6 from rfl) (show nI i = nI i from rfl)) (show (3 : Int32) = nI 3 from rfl)) (show 6 * i + 3 < 2 ^ 31 by omega)]
    refine X_aload_n d_Model_up_35 rfl rfl ?_
    refine X_getR (r := 62) fg_Model_16 (show xYf 59 = some sModel from rfl) rfl d_Model_up_36 ?_
    refine X_bipush (v := 6) d_Model_up_39 rfl ?_
    refine X_iload_n d_Model_up_41 rfl rfl ?_
    refine X_imul d_Model_up_42 ?_
    refine X_iconst (v := 4) d_Model_up_43 rfl ?_
    refine X_iadd d_Model_up_44 ?_
    refine X_iconst (v := 0) d_Model_up_45 rfl ?_
    refine X_astI (show xYf 62 = some (sInts 30) from rfl) (ixin (ixA (ixM (show (6 : Int32) = nI 6 from rfl) (show nI i = nI i from rfl)) (show (4 : Int32) = nI 4 from rfl)) (show 6 * i + 4 < 30 by omega) (by decide)) d_Model_up_46 ?_
    rw [ixcl (x := (6 * (nI i)) + 4) (ixA (ixM (show (6 : Int32) = nI 6 from rfl) (show nI i = nI i from rfl)) (show (4 : Int32) = nI 4 from rfl)) (show 6 * i + 4 < 2 ^ 31 by omega)]
    refine X_aload_n d_Model_up_47 rfl rfl ?_
    refine X_getR (r := 62) fg_Model_16 (show xYf 59 = some sModel from rfl) rfl d_Model_up_48 ?_
    refine X_bipush (v := 6) d_Model_up_51 rfl ?_
    refine X_iload_n d_Model_up_53 rfl rfl ?_
    refine X_imul d_Model_up_54 ?_
    refine X_iconst (v := 5) d_Model_up_55 rfl ?_
    refine X_iadd d_Model_up_56 ?_
    refine X_iconst (v := 0) d_Model_up_57 rfl ?_
    refine X_astI (show xYf 62 = some (sInts 30) from rfl) (ixin (ixA (ixM (show (6 : Int32) = nI 6 from rfl) (show nI i = nI i from rfl)) (show (5 : Int32) = nI 5 from rfl)) (show 6 * i + 5 < 30 by omega) (by decide)) d_Model_up_58 ?_
    rw [ixcl (x := (6 * (nI i)) + 5) (ixA (ixM (show (6 : Int32) = nI 6 from rfl) (show nI i = nI i from rfl)) (show (5 : Int32) = nI 5 from rfl)) (show 6 * i + 5 < 2 ^ 31 by omega)]
    refine X_iload_n d_Model_up_59 rfl rfl ?_
    exact X_iret rfl (congrArg (fun q => some (Value.int q)) (by first | (simp [aUp, mRow, c_1, nI_cl (show i < 2 ^ 31 by omega), xl_1_0, xl_1_1, xl_2_0, xl_2_1, xl_2_2]; done) | (exfalso; simp_all; done) | (clear hTs hR hK0 hK; simp_all [aUp, mRow, nI_cl (show i < 2 ^ 31 by omega)]; done))) (xle_of (congrArg (xm G xYf) (by first | (simp [c_1, nI_cl (show i < 2 ^ 31 by omega)]; done) | (exfalso; simp_all; done)))) d_Model_up_60
  ·
    refine X_ldc cs_Model_156 d_Model_up_8 ?_
    exact X_iret rfl (congrArg (fun q => some (Value.int q)) (by first | (simp [aUp, mRow, c_1, xl_1_0, xl_1_1, xl_2_0, xl_2_1, xl_2_2]; done) | (exfalso; simp_all; done) | (clear hTs hR hK0 hK; simp_all [aUp, mRow]; done))) (xle_of (congrArg (xm G xYf) (by first | (simp [c_1]; done) | (exfalso; simp_all; done)))) d_Model_up_10
