theorem c_Model_asks (l : Launch) (G : xG) {d : Nat} (nn : Nat) (hd : 4 ≤ d) (I : xI) (hc tc ln : Nat) (SS : Nat → xSay) (hK0 : mOK I hc tc ln SS) (part h se : Int32) : XM l G d y_Model_asks b_Model_asks 4 (some .int) 0 0 xK0 [.ref (xg G 59), .int part, .int h, .int se] nn (xm G xYf I) (some (.int (aAsks hc (SS ln) (mRow I) part h se))) nn (xm G xYf (if xin part 0 2 = true ∧ xin h 0 (nI hc - 1) = true ∧ xnum se 0 = true then xw I 59 29 (I 62 (6 * h.toNatClampNeg)) else I)) := by
  obtain ⟨⟨h0, h5⟩, ⟨h8, h6⟩, ⟨h9, hl⟩, hTs, hR⟩ := id hK0
  have hK : mK I ln (SS ln) := ⟨hTs ln hl, h9, by omega⟩
  generalize hSS : SS ln = S at hK ⊢
  refine XM.of (by decide) (Nat.le_of_ble_eq_true rfl) (L := [(0, .ref (xg G 59)), (1, .int part), (2, .int h), (3, .int se)]) rfl ?_
  refine X_iload_n d_Model_asks_0 rfl rfl ?_
  refine X_iconst (v := 0) d_Model_asks_1 rfl ?_
  refine X_iconst (v := 2) d_Model_asks_2 rfl ?_
  refine X_callS (v := .int (xb (xin part 0 2))) (rest := []) (c_Model_in l G nn _ (by omega) part 0 2) lk_Model_in ml_Model_66 rfl (Nat.le_of_ble_eq_true rfl) (xRok (d' := d - 1) (by omega) (by decide)) ⟨Nat.le_refl _, Nat.le_refl _⟩ d_Model_asks_3 rfl ?_
  refine X_ifb_eq (tgt := 35) d_Model_asks_6 (by decide) (fun c_1 => ?_) (fun c_1 => ?_)
  ·
    refine X_bipush (v := -2) d_Model_asks_35 rfl ?_
    exact X_iret rfl (congrArg (fun q => some (Value.int q)) (by subst hSS; first | (simp [aAsks, c_1, xl_1_0, xl_1_1, xl_2_0, xl_2_1, xl_2_2, xl_3_0, xl_3_1, xl_3_2, xl_3_3]; done) | (exfalso; simp_all; done) | (clear hTs hR hK0 hK; simp_all [aAsks]; done))) (xle_of (congrArg (xm G xYf) (by first | (subst hSS; simp [c_1, xl_3_0, xl_3_1, xl_3_2, xl_3_3, xl_2_0, xl_2_1, xl_2_2, xl_1_0, xl_1_1]; done) | (exfalso; simp_all; done)))) d_Model_asks_37
  ·
    obtain ⟨p, hp, rfl⟩ := cTop (n := 2) (by decide) c_1
    refine X_aload_n d_Model_asks_9 rfl rfl ?_
    refine X_iload_n d_Model_asks_10 rfl rfl ?_
    refine X_callV (v := .int (xb (xin h 0 (nI hc - 1)))) (rest := []) (c_Model_isHead l G nn (by omega) I hc tc ln SS hK0 h) lk_Model_isHead ml_Model_149 (xm_obj (show xYf 59 = some sModel from rfl)) rfl rfl (Nat.le_of_ble_eq_true rfl) (xRok (d' := d - 1) (by omega) (by decide)) ⟨Nat.le_refl _, Nat.le_refl _⟩ d_Model_asks_11 rfl ?_
    refine X_ifb_eq (tgt := 35) d_Model_asks_14 (by decide) (fun c_2 => ?_) (fun c_2 => ?_)
    ·
      refine X_bipush (v := -2) d_Model_asks_35 rfl ?_
      exact X_iret rfl (congrArg (fun q => some (Value.int q)) (by subst hSS; first | (simp [aAsks, c_1, c_2, xl_1_0, xl_1_1, xl_2_0, xl_2_1, xl_2_2, xl_3_0, xl_3_1, xl_3_2, xl_3_3]; done) | (exfalso; simp_all; done) | (clear hTs hR hK0 hK; simp_all [aAsks]; done))) (xle_of (congrArg (xm G xYf) (by first | (subst hSS; simp [c_1, c_2, xl_3_0, xl_3_1, xl_3_2, xl_3_3, xl_2_0, xl_2_1, xl_2_2, xl_1_0, xl_1_1]; done) | (exfalso; simp_all; done)))) d_Model_asks_37
    ·
      obtain ⟨i, hi, rfl⟩ := cHead h5 c_2
      refine X_iload_n d_Model_asks_17 rfl rfl ?_
      refine X_iconst (v := 0) d_Model_asks_18 rfl ?_
      refine X_bipush (v := 91) d_Model_asks_19 rfl ?_
      refine X_callS (v := .int (xb (xin se 0 91))) (rest := []) (c_Model_in l G nn _ (by omega) se 0 91) lk_Model_in ml_Model_66 rfl (Nat.le_of_ble_eq_true rfl) (xRok (d' := d - 1) (by omega) (by decide)) ⟨Nat.le_refl _, Nat.le_refl _⟩ d_Model_asks_21 rfl ?_
      refine X_ifb_eq (tgt := 35) d_Model_asks_24 (by decide) (fun c_3 => ?_) (fun c_3 => ?_)
      ·
        have nk : xnum se 0 = false := by cases hx : xnum se 0 with | false => rfl | true => (obtain ⟨z1, z2⟩ := xnum_0.mp hx; simp_all)
        refine X_bipush (v := -2) d_Model_asks_35 rfl ?_
        exact X_iret rfl (congrArg (fun q => some (Value.int q)) (by subst hSS; first | (simp [aAsks, c_1, c_2, nI_cl (show i < 2 ^ 31 by omega), c_3, nk, xl_1_0, xl_1_1, xl_2_0, xl_2_1, xl_2_2, xl_3_0, xl_3_1, xl_3_2, xl_3_3]; done) | (exfalso; simp_all; done) | (clear hTs hR hK0 hK; simp_all [aAsks, nI_cl (show i < 2 ^ 31 by omega)]; done))) (xle_of (congrArg (xm G xYf) (by first | (subst hSS; simp [c_1, c_2, nI_cl (show i < 2 ^ 31 by omega), c_3, nk, xl_3_0, xl_3_1, xl_3_2, xl_3_3, xl_2_0, xl_2_1, xl_2_2, xl_1_0, xl_1_1]; done) | (exfalso; simp_all; done)))) d_Model_asks_37
      ·
        refine X_iload_n d_Model_asks_27 rfl rfl ?_
        refine X_bipush (v := 10) d_Model_asks_28 rfl ?_
        refine X_irem d_Model_asks_30 (by decide) ?_
        refine X_iconst (v := 1) d_Model_asks_31 rfl ?_
        refine X_icmp_le (tgt := 38) d_Model_asks_32 (by decide) (fun c_4 => ?_) (fun c_4 => ?_)
        ·
          have ok : xnum se 0 = true := xnum_0.mpr ⟨c_3, c_4⟩
          refine X_aload_n d_Model_asks_38 rfl rfl ?_
          refine X_aload_n d_Model_asks_39 rfl rfl ?_
          refine X_getR (r := 62) fg_Model_16 (show xYf 59 = some sModel from rfl) rfl d_Model_asks_40 ?_
          refine X_bipush (v := 6) d_Model_asks_43 rfl ?_
          refine X_iload_n d_Model_asks_45 rfl rfl ?_
          refine X_imul d_Model_asks_46 ?_
          refine X_aldI (v := I 62 (6 * i)) (show xYf 62 = some (sInts 30) from rfl) (ixin (ixM (show (6 : Int32) = nI 6 from rfl) (show nI i = nI i from rfl)) (show 6 * i < 30 by omega) (by decide)) ((ixv (ixM (show (6 : Int32) = nI 6 from rfl) (show nI i = nI i from rfl)) (show 6 * i < 2 ^ 31 by omega) (rfl))) d_Model_asks_47 ?_
          refine X_putI fp_Model_140 (show xYf 59 = some sModel from rfl) rfl d_Model_asks_48 ?_
          refine X_aload_n d_Model_asks_51 rfl rfl ?_
          refine X_iload_n d_Model_asks_52 rfl rfl ?_
          refine X_iload_n d_Model_asks_53 rfl rfl ?_
          refine X_iload_n d_Model_asks_54 rfl rfl ?_
          refine X_bipush (v := 10) d_Model_asks_55 rfl ?_
          refine X_idiv d_Model_asks_57 (by decide) ?_
          refine X_iload_n d_Model_asks_58 rfl rfl ?_
          refine X_bipush (v := 10) d_Model_asks_59 rfl ?_
          refine X_irem d_Model_asks_61 (by decide) ?_
          refine X_callV (v := .int (S (nI p) (se / 10) (se - se / 10 * 10) (mRow I i))) (rest := []) (c_Model_asksOf l G nn (by omega) (xw I 59 29 (I 62 (6 * i))) p ln i (by omega) (by omega) (by omega) S (mTx_kept hK.1 (xw_row _ _ _ (by decide)) (xw_row _ _ _ (by decide))) ((xw_k _ _ _ (by decide)).trans hK.2.1) (mRow I i) ⟨rfl, rfl, rfl, rfl⟩ (xw_s _ _ _ _) (se / 10) (se - se / 10 * 10)) lk_Model_asksOf ml_Model_152 (xm_obj (show xYf 59 = some sModel from rfl)) rfl rfl (Nat.le_of_ble_eq_true rfl) (xRok (d' := d - 1) (by omega) (by decide)) ⟨Nat.le_refl _, Nat.le_refl _⟩ d_Model_asks_62 rfl ?_
          exact X_iret rfl (congrArg (fun q => some (Value.int q)) (by subst hSS; first | (simp [aAsks, c_1, c_2, nI_cl (show i < 2 ^ 31 by omega), c_3, c_4, Int32.not_lt.mpr c_4, ok, xl_1_0, xl_1_1, xl_2_0, xl_2_1, xl_2_2, xl_3_0, xl_3_1, xl_3_2, xl_3_3]; done) | (exfalso; simp_all; done) | (clear hTs hR hK0 hK; simp_all [aAsks, nI_cl (show i < 2 ^ 31 by omega)]; done))) (xle_of (congrArg (xm G xYf) (by first | (subst hSS; simp [c_1, c_2, nI_cl (show i < 2 ^ 31 by omega), c_3, c_4, Int32.not_lt.mpr c_4, ok, xl_3_0, xl_3_1, xl_3_2, xl_3_3, xl_2_0, xl_2_1, xl_2_2, xl_1_0, xl_1_1]; done) | (exfalso; simp_all; done)))) d_Model_asks_65
        ·
          have nk : xnum se 0 = false := by cases hx : xnum se 0 with | false => rfl | true => (obtain ⟨z1, z2⟩ := xnum_0.mp hx; simp_all)
          refine X_bipush (v := -2) d_Model_asks_35 rfl ?_
          exact X_iret rfl (congrArg (fun q => some (Value.int q)) (by subst hSS; first | (simp [aAsks, c_1, c_2, nI_cl (show i < 2 ^ 31 by omega), c_3, c_4, Int32.not_le.mp c_4, nk, xl_1_0, xl_1_1, xl_2_0, xl_2_1, xl_2_2, xl_3_0, xl_3_1, xl_3_2, xl_3_3]; done) | (exfalso; simp_all; done) | (clear hTs hR hK0 hK; simp_all [aAsks, nI_cl (show i < 2 ^ 31 by omega)]; done))) (xle_of (congrArg (xm G xYf) (by first | (subst hSS; simp [c_1, c_2, nI_cl (show i < 2 ^ 31 by omega), c_3, c_4, Int32.not_le.mp c_4, nk, xl_3_0, xl_3_1, xl_3_2, xl_3_3, xl_2_0, xl_2_1, xl_2_2, xl_1_0, xl_1_1]; done) | (exfalso; simp_all; done)))) d_Model_asks_37
def mCur2 (I : xI) (i : Nat) : Nat → Int32 := fun j => if j = 0 then I 60 i else if j = 1 then I 61 i else if j = 2 then I 59 29 else if j = 3 then I 62 (6 * i + 1) else if j = 4 then I 62 (6 * i + 2) else if j = 5 then I 59 30 else if j = 6 then I 59 31 else I 59 32
theorem sc_self2 (I : xI) (i : Nat) : xup I 59 (sc (I 59) (mCur2 I i) (I 59 33)) = I := by
  have e : sc (I 59) (mCur2 I i) (I 59 33) = I 59 := by
    funext k
    simp only [sc, mCur2, xup]
    grind
  rw [e, xup_self]
theorem c_Model_told (l : Launch) (G : xG) {d : Nat} (nn : Nat) (hd : 4 ≤ d) (I : xI) (hc tc ln : Nat) (SS : Nat → xSay) (hK0 : mOK I hc tc ln SS) (h what : Int32) : XM l G d y_Model_told b_Model_told 3 (some .int) 0 0 xK0 [.ref (xg G 59), .int h, .int what] nn (xm G xYf I) (some (.int (aTold hc (mRow I) h what))) nn (xm G xYf (I)) := by
  obtain ⟨⟨h0, h5⟩, ⟨h8, h6⟩, ⟨h9, hl⟩, hTs, hR⟩ := id hK0
  have hK : mK I ln (SS ln) := ⟨hTs ln hl, h9, by omega⟩
  generalize hSS : SS ln = S at hK ⊢
  refine XM.of (by decide) (Nat.le_of_ble_eq_true rfl) (L := [(0, .ref (xg G 59)), (1, .int h), (2, .int what)]) rfl ?_
  refine X_aload_n d_Model_told_0 rfl rfl ?_
  refine X_iload_n d_Model_told_1 rfl rfl ?_
  refine X_callV (v := .int (xb (xin h 0 (nI hc - 1)))) (rest := []) (c_Model_isHead l G nn (by omega) I hc tc ln SS hK0 h) lk_Model_isHead ml_Model_149 (xm_obj (show xYf 59 = some sModel from rfl)) rfl rfl (Nat.le_of_ble_eq_true rfl) (xRok (d' := d - 1) (by omega) (by decide)) ⟨Nat.le_refl _, Nat.le_refl _⟩ d_Model_told_2 rfl ?_
  refine X_ifb_ne (tgt := 11) d_Model_told_5 (by decide) (fun c_1 => ?_) (fun c_1 => ?_)
  ·
    obtain ⟨i, hi, rfl⟩ := cHead h5 c_1
    refine X_iload_n d_Model_told_11 rfl rfl ?_
    by_cases c_2 : what = 0
    ·
      refine X_tableIn (tgt := 64) d_Model_told_12 (by rw [c_2]; decide) (by rw [c_2]; decide) (by rw [c_2]; rfl) (by decide) ?_
      refine X_aload_n d_Model_told_64 rfl rfl ?_
      refine X_getR (r := 60) fg_Model_7 (show xYf 59 = some sModel from rfl) rfl d_Model_told_65 ?_
      refine X_iload_n d_Model_told_68 rfl rfl ?_
      refine X_aldI (v := I 60 i) (show xYf 60 = some (sInts 5) from rfl) (ixin (show nI i = nI i from rfl) (show i < 5 by omega) (by decide)) ((ixv (show nI i = nI i from rfl) (show i < 2 ^ 31 by omega) (rfl))) d_Model_told_69 ?_
      exact X_iret rfl (congrArg (fun q => some (Value.int q)) (by subst hSS; first | (simp [aTold, mRow, c_1, nI_cl (show i < 2 ^ 31 by omega), c_2, xl_1_0, xl_1_1, xl_2_0, xl_2_1, xl_2_2, xl_3_0, xl_3_1, xl_3_2, xl_3_3]; done) | (exfalso; simp_all; done) | (clear hTs hR hK0 hK; simp_all [aTold, mRow, nI_cl (show i < 2 ^ 31 by omega)]; done))) (xle_rf _) d_Model_told_70
    by_cases c_3 : what = 1
    ·
      refine X_tableIn (tgt := 71) d_Model_told_12 (by rw [c_3]; decide) (by rw [c_3]; decide) (by rw [c_3]; rfl) (by decide) ?_
      refine X_aload_n d_Model_told_71 rfl rfl ?_
      refine X_getR (r := 61) fg_Model_13 (show xYf 59 = some sModel from rfl) rfl d_Model_told_72 ?_
      refine X_iload_n d_Model_told_75 rfl rfl ?_
      refine X_aldI (v := I 61 i) (show xYf 61 = some (sInts 5) from rfl) (ixin (show nI i = nI i from rfl) (show i < 5 by omega) (by decide)) ((ixv (show nI i = nI i from rfl) (show i < 2 ^ 31 by omega) (rfl))) d_Model_told_76 ?_
      exact X_iret rfl (congrArg (fun q => some (Value.int q)) (by subst hSS; first | (simp [aTold, mRow, c_1, nI_cl (show i < 2 ^ 31 by omega), c_2, c_3, xl_1_0, xl_1_1, xl_2_0, xl_2_1, xl_2_2, xl_3_0, xl_3_1, xl_3_2, xl_3_3]; done) | (exfalso; simp_all; done) | (clear hTs hR hK0 hK; simp_all [aTold, mRow, nI_cl (show i < 2 ^ 31 by omega)]; done))) (xle_rf _) d_Model_told_77
    by_cases c_4 : what = 2
    ·
      refine X_tableIn (tgt := 78) d_Model_told_12 (by rw [c_4]; decide) (by rw [c_4]; decide) (by rw [c_4]; rfl) (by decide) ?_
      subst c_4
      refine X_aload_n d_Model_told_78 rfl rfl ?_
      refine X_getR (r := 62) fg_Model_16 (show xYf 59 = some sModel from rfl) rfl d_Model_told_79 ?_
      refine X_bipush (v := 6) d_Model_told_82 rfl ?_
      refine X_iload_n d_Model_told_84 rfl rfl ?_
      refine X_imul d_Model_told_85 ?_
      refine X_iload_n d_Model_told_86 rfl rfl ?_
      refine X_iadd d_Model_told_87 ?_
      refine X_iconst (v := 2) d_Model_told_88 rfl ?_
      refine X_isub d_Model_told_89 ?_
      refine X_aldI (v := I 62 (6 * i)) (show xYf 62 = some (sInts 30) from rfl) (ixin (ixSb (a := 6 * i) (m := 2) (show _ = nI (6 * i + 2) from (ixA (ixM (show (6 : Int32) = nI 6 from rfl) (show nI i = nI i from rfl)) (show (2 : Int32) = nI 2 from rfl)))) (show 6 * i < 30 by omega) (by decide)) ((ixv (ixSb (a := 6 * i) (m := 2) (show _ = nI (6 * i + 2) from (ixA (ixM (show (6 : Int32) = nI 6 from rfl) (show nI i = nI i from rfl)) (show (2 : Int32) = nI 2 from rfl)))) (show 6 * i < 2 ^ 31 by omega) (rfl))) d_Model_told_90 ?_
      exact X_iret rfl (congrArg (fun q => some (Value.int q)) (by subst hSS; first | (simp [aTold, mRow, c_1, nI_cl (show i < 2 ^ 31 by omega), c_2, c_3, xl_1_0, xl_1_1, xl_2_0, xl_2_1, xl_2_2, xl_3_0, xl_3_1, xl_3_2, xl_3_3]; done) | (exfalso; simp_all; done) | (clear hTs hR hK0 hK; simp_all [aTold, mRow, nI_cl (show i < 2 ^ 31 by omega)]; done))) (xle_rf _) d_Model_told_91
    by_cases c_5 : what = 3
    ·
      refine X_tableIn (tgt := 78) d_Model_told_12 (by rw [c_5]; decide) (by rw [c_5]; decide) (by rw [c_5]; rfl) (by decide) ?_
      subst c_5
      refine X_aload_n d_Model_told_78 rfl rfl ?_
      refine X_getR (r := 62) fg_Model_16 (show xYf 59 = some sModel from rfl) rfl d_Model_told_79 ?_
      refine X_bipush (v := 6) d_Model_told_82 rfl ?_
      refine X_iload_n d_Model_told_84 rfl rfl ?_
      refine X_imul d_Model_told_85 ?_
      refine X_iload_n d_Model_told_86 rfl rfl ?_
      refine X_iadd d_Model_told_87 ?_
      refine X_iconst (v := 2) d_Model_told_88 rfl ?_
      refine X_isub d_Model_told_89 ?_
      refine X_aldI (v := I 62 (6 * i + 1)) (show xYf 62 = some (sInts 30) from rfl) (ixin (ixSb (a := 6 * i + 1) (m := 2) (show _ = nI (6 * i + 3) from (ixA (ixM (show (6 : Int32) = nI 6 from rfl) (show nI i = nI i from rfl)) (show (3 : Int32) = nI 3 from rfl)))) (show 6 * i + 1 < 30 by omega) (by decide)) ((ixv (ixSb (a := 6 * i + 1) (m := 2) (show _ = nI (6 * i + 3) from (ixA (ixM (show (6 : Int32) = nI 6 from rfl) (show nI i = nI i from rfl)) (show (3 : Int32) = nI 3 from rfl)))) (show 6 * i + 1 < 2 ^ 31 by omega) (rfl))) d_Model_told_90 ?_
      exact X_iret rfl (congrArg (fun q => some (Value.int q)) (by subst hSS; first | (simp [aTold, mRow, c_1, nI_cl (show i < 2 ^ 31 by omega), c_2, c_3, c_4, xl_1_0, xl_1_1, xl_2_0, xl_2_1, xl_2_2, xl_3_0, xl_3_1, xl_3_2, xl_3_3]; done) | (exfalso; simp_all; done) | (clear hTs hR hK0 hK; simp_all [aTold, mRow, nI_cl (show i < 2 ^ 31 by omega)]; done))) (xle_rf _) d_Model_told_91
    by_cases c_6 : what = 4
    ·
      refine X_tableIn (tgt := 78) d_Model_told_12 (by rw [c_6]; decide) (by rw [c_6]; decide) (by rw [c_6]; rfl) (by decide) ?_
      subst c_6
      refine X_aload_n d_Model_told_78 rfl rfl ?_
      refine X_getR (r := 62) fg_Model_16 (show xYf 59 = some sModel from rfl) rfl d_Model_told_79 ?_
      refine X_bipush (v := 6) d_Model_told_82 rfl ?_
      refine X_iload_n d_Model_told_84 rfl rfl ?_
      refine X_imul d_Model_told_85 ?_
      refine X_iload_n d_Model_told_86 rfl rfl ?_
      refine X_iadd d_Model_told_87 ?_
      refine X_iconst (v := 2) d_Model_told_88 rfl ?_
      refine X_isub d_Model_told_89 ?_
      refine X_aldI (v := I 62 (6 * i + 2)) (show xYf 62 = some (sInts 30) from rfl) (ixin (ixSb (a := 6 * i + 2) (m := 2) (show _ = nI (6 * i + 4) from (ixA (ixM (show (6 : Int32) = nI 6 from rfl) (show nI i = nI i from rfl)) (show (4 : Int32) = nI 4 from rfl)))) (show 6 * i + 2 < 30 by omega) (by decide)) ((ixv (ixSb (a := 6 * i + 2) (m := 2) (show _ = nI (6 * i + 4) from (ixA (ixM (show (6 : Int32) = nI 6 from rfl) (show nI i = nI i from rfl)) (show (4 : Int32) = nI 4 from rfl)))) (show 6 * i + 2 < 2 ^ 31 by omega) (rfl))) d_Model_told_90 ?_
      exact X_iret rfl (congrArg (fun q => some (Value.int q)) (by subst hSS; first | (simp [aTold, mRow, c_1, nI_cl (show i < 2 ^ 31 by omega), c_2, c_3, c_4, c_5, xl_1_0, xl_1_1, xl_2_0, xl_2_1, xl_2_2, xl_3_0, xl_3_1, xl_3_2, xl_3_3]; done) | (exfalso; simp_all; done) | (clear hTs hR hK0 hK; simp_all [aTold, mRow, nI_cl (show i < 2 ^ 31 by omega)]; done))) (xle_rf _) d_Model_told_91
    by_cases c_7 : what = 5
    ·
      refine X_tableIn (tgt := 78) d_Model_told_12 (by rw [c_7]; decide) (by rw [c_7]; decide) (by rw [c_7]; rfl) (by decide) ?_
      subst c_7
      refine X_aload_n d_Model_told_78 rfl rfl ?_
      refine X_getR (r := 62) fg_Model_16 (show xYf 59 = some sModel from rfl) rfl d_Model_told_79 ?_
      refine X_bipush (v := 6) d_Model_told_82 rfl ?_
      refine X_iload_n d_Model_told_84 rfl rfl ?_
      refine X_imul d_Model_told_85 ?_
      refine X_iload_n d_Model_told_86 rfl rfl ?_
      refine X_iadd d_Model_told_87 ?_
      refine X_iconst (v := 2) d_Model_told_88 rfl ?_
      refine X_isub d_Model_told_89 ?_
      refine X_aldI (v := I 62 (6 * i + 3)) (show xYf 62 = some (sInts 30) from rfl) (ixin (ixSb (a := 6 * i + 3) (m := 2) (show _ = nI (6 * i + 5) from (ixA (ixM (show (6 : Int32) = nI 6 from rfl) (show nI i = nI i from rfl)) (show (5 : Int32) = nI 5 from rfl)))) (show 6 * i + 3 < 30 by omega) (by decide)) ((ixv (ixSb (a := 6 * i + 3) (m := 2) (show _ = nI (6 * i + 5) from (ixA (ixM (show (6 : Int32) = nI 6 from rfl) (show nI i = nI i from rfl)) (show (5 : Int32) = nI 5 from rfl)))) (show 6 * i + 3 < 2 ^ 31 by omega) (rfl))) d_Model_told_90 ?_
      exact X_iret rfl (congrArg (fun q => some (Value.int q)) (by subst hSS; first | (simp [aTold, mRow, c_1, nI_cl (show i < 2 ^ 31 by omega), c_2, c_3, c_4, c_5, c_6, xl_1_0, xl_1_1, xl_2_0, xl_2_1, xl_2_2, xl_3_0, xl_3_1, xl_3_2, xl_3_3]; done) | (exfalso; simp_all; done) | (clear hTs hR hK0 hK; simp_all [aTold, mRow, nI_cl (show i < 2 ^ 31 by omega)]; done))) (xle_rf _) d_Model_told_91
    by_cases c_8 : what = 6
    ·
      refine X_tableIn (tgt := 78) d_Model_told_12 (by rw [c_8]; decide) (by rw [c_8]; decide) (by rw [c_8]; rfl) (by decide) ?_
      subst c_8
      refine X_aload_n d_Model_told_78 rfl rfl ?_
      refine X_getR (r := 62) fg_Model_16 (show xYf 59 = some sModel from rfl) rfl d_Model_told_79 ?_
      refine X_bipush (v := 6) d_Model_told_82 rfl ?_
      refine X_iload_n d_Model_told_84 rfl rfl ?_
      refine X_imul d_Model_told_85 ?_
      refine X_iload_n d_Model_told_86 rfl rfl ?_
      refine X_iadd d_Model_told_87 ?_
      refine X_iconst (v := 2) d_Model_told_88 rfl ?_
      refine X_isub d_Model_told_89 ?_
      refine X_aldI (v := I 62 (6 * i + 4)) (show xYf 62 = some (sInts 30) from rfl) (ixin (ixSb (a := 6 * i + 4) (m := 2) (show _ = nI (6 * i + 6) from (ixA (ixM (show (6 : Int32) = nI 6 from rfl) (show nI i = nI i from rfl)) (show (6 : Int32) = nI 6 from rfl)))) (show 6 * i + 4 < 30 by omega) (by decide)) ((ixv (ixSb (a := 6 * i + 4) (m := 2) (show _ = nI (6 * i + 6) from (ixA (ixM (show (6 : Int32) = nI 6 from rfl) (show nI i = nI i from rfl)) (show (6 : Int32) = nI 6 from rfl)))) (show 6 * i + 4 < 2 ^ 31 by omega) (rfl))) d_Model_told_90 ?_
      exact X_iret rfl (congrArg (fun q => some (Value.int q)) (by subst hSS; first | (simp [aTold, mRow, c_1, nI_cl (show i < 2 ^ 31 by omega), c_2, c_3, c_4, c_5, c_6, c_7, xl_1_0, xl_1_1, xl_2_0, xl_2_1, xl_2_2, xl_3_0, xl_3_1, xl_3_2, xl_3_3]; done) | (exfalso; simp_all; done) | (clear hTs hR hK0 hK; simp_all [aTold, mRow, nI_cl (show i < 2 ^ 31 by omega)]; done))) (xle_rf _) d_Model_told_91
    by_cases c_9 : what = 7
    ·
      refine X_tableIn (tgt := 78) d_Model_told_12 (by rw [c_9]; decide) (by rw [c_9]; decide) (by rw [c_9]; rfl) (by decide) ?_
      subst c_9
      refine X_aload_n d_Model_told_78 rfl rfl ?_
      refine X_getR (r := 62) fg_Model_16 (show xYf 59 = some sModel from rfl) rfl d_Model_told_79 ?_
      refine X_bipush (v := 6) d_Model_told_82 rfl ?_
      refine X_iload_n d_Model_told_84 rfl rfl ?_
      refine X_imul d_Model_told_85 ?_
      refine X_iload_n d_Model_told_86 rfl rfl ?_
      refine X_iadd d_Model_told_87 ?_
      refine X_iconst (v := 2) d_Model_told_88 rfl ?_
      refine X_isub d_Model_told_89 ?_
      refine X_aldI (v := I 62 (6 * i + 5)) (show xYf 62 = some (sInts 30) from rfl) (ixin (ixSb (a := 6 * i + 5) (m := 2) (show _ = nI (6 * i + 7) from (ixA (ixM (show (6 : Int32) = nI 6 from rfl) (show nI i = nI i from rfl)) (show (7 : Int32) = nI 7 from rfl)))) (show 6 * i + 5 < 30 by omega) (by decide)) ((ixv (ixSb (a := 6 * i + 5) (m := 2) (show _ = nI (6 * i + 7) from (ixA (ixM (show (6 : Int32) = nI 6 from rfl) (show nI i = nI i from rfl)) (show (7 : Int32) = nI 7 from rfl)))) (show 6 * i + 5 < 2 ^ 31 by omega) (rfl))) d_Model_told_90 ?_
      exact X_iret rfl (congrArg (fun q => some (Value.int q)) (by subst hSS; first | (simp [aTold, mRow, c_1, nI_cl (show i < 2 ^ 31 by omega), c_2, c_3, c_4, c_5, c_6, c_7, c_8, xl_1_0, xl_1_1, xl_2_0, xl_2_1, xl_2_2, xl_3_0, xl_3_1, xl_3_2, xl_3_3]; done) | (exfalso; simp_all; done) | (clear hTs hR hK0 hK; simp_all [aTold, mRow, nI_cl (show i < 2 ^ 31 by omega)]; done))) (xle_rf _) d_Model_told_91
    by_cases c_10 : what = 8
    ·
      refine X_tableIn (tgt := 92) d_Model_told_12 (by rw [c_10]; decide) (by rw [c_10]; decide) (by rw [c_10]; rfl) (by decide) ?_
      refine X_aload_n d_Model_told_92 rfl rfl ?_
      refine X_iload_n d_Model_told_93 rfl rfl ?_
      refine X_callV (v := .int (kFalls (mRow I i 0) (mRow I i 1))) (rest := []) (by have q := c_Model_fallsFrom l G nn (d := d - 1) (by omega) I ln i S hK (by omega) (mCur2 I i) ⟨rfl, rfl, rfl, rfl⟩ (I 59 33); rw [sc_self2] at q; exact q) lk_Model_fallsFrom ml_Model_158 (xm_obj (show xYf 59 = some sModel from rfl)) rfl rfl (Nat.le_of_ble_eq_true rfl) (xRok (d' := d - 1) (by omega) (by decide)) ⟨Nat.le_refl _, Nat.le_refl _⟩ d_Model_told_94 rfl ?_
      exact X_iret rfl (congrArg (fun q => some (Value.int q)) (by subst hSS; first | (simp [aTold, mRow, c_1, nI_cl (show i < 2 ^ 31 by omega), c_2, c_3, c_4, c_5, c_6, c_7, c_8, c_9, c_10, xl_1_0, xl_1_1, xl_2_0, xl_2_1, xl_2_2, xl_3_0, xl_3_1, xl_3_2, xl_3_3]; done) | (exfalso; simp_all; done) | (clear hTs hR hK0 hK; simp_all [aTold, mRow, nI_cl (show i < 2 ^ 31 by omega)]; done))) (xle_rf _) d_Model_told_97
    refine X_tableOut (tgt := 98) d_Model_told_12 (xtout what (0) (8) (by decide) (by intro q h1 h2; have hq : q = 0 ∨ q = 1 ∨ q = 2 ∨ q = 3 ∨ q = 4 ∨ q = 5 ∨ q = 6 ∨ q = 7 ∨ q = 8 := (by omega); rcases hq with rfl | rfl | rfl | rfl | rfl | rfl | rfl | rfl | rfl <;> first | exact c_2 | exact c_3 | exact c_4 | exact c_5 | exact c_6 | exact c_7 | exact c_8 | exact c_9 | exact c_10)) (by decide) ?_
    refine X_ldc cs_Model_157 d_Model_told_98 ?_
    exact X_iret rfl (congrArg (fun q => some (Value.int q)) (by subst hSS; first | (simp [aTold, mRow, c_1, nI_cl (show i < 2 ^ 31 by omega), c_2, c_3, c_4, c_5, c_6, c_7, c_8, c_9, c_10, xl_1_0, xl_1_1, xl_2_0, xl_2_1, xl_2_2, xl_3_0, xl_3_1, xl_3_2, xl_3_3]; done) | (exfalso; simp_all; done) | (clear hTs hR hK0 hK; simp_all [aTold, mRow, nI_cl (show i < 2 ^ 31 by omega)]; done))) (xle_rf _) d_Model_told_100
  ·
    refine X_ldc cs_Model_156 d_Model_told_8 ?_
    exact X_iret rfl (congrArg (fun q => some (Value.int q)) (by subst hSS; first | (simp [aTold, mRow, c_1, xl_1_0, xl_1_1, xl_2_0, xl_2_1, xl_2_2, xl_3_0, xl_3_1, xl_3_2, xl_3_3]; done) | (exfalso; simp_all; done) | (clear hTs hR hK0 hK; simp_all [aTold, mRow]; done))) (xle_rf _) d_Model_told_10
