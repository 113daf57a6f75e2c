theorem xl_66 : xin 6 0 6 = true := rfl
theorem xl_m1 : xin (-1) (-1) 2 = true := rfl
def aSheet (s sort n : Int32) : Int32 := if xin s 0 3 = true ∧ xin sort (-1) 2 = true then (if sort = -1 then 1 else if 40 < n then -2 else if n < 0 then -14 else 1) else -2
def mSheet (I : xI) (s sort n : Int32) : xI := if xin s 0 3 = true ∧ xin sort (-1) 2 = true then (if sort = -1 then shBegin I (51 + 2 * s.toNatClampNeg) (-1) 0 else if 40 < n then I else if n < 0 then I else shBegin I (51 + 2 * s.toNatClampNeg) sort n) else I
def aCell (I : xI) (s i v : Int32) : Int32 := if rSheet (fun q => I (51 + 2 * q) 1) s = 0 then (if shHas (I (51 + 2 * s.toNatClampNeg)) i = true then 1 else -12) else rSheet (fun q => I (51 + 2 * q) 1) s
def mCell (I : xI) (s i v : Int32) : xI := if rSheet (fun q => I (51 + 2 * q) 1) s = 0 then (if shHas (I (51 + 2 * s.toNatClampNeg)) i = true then shPut I (51 + 2 * s.toNatClampNeg) i v else I) else I
theorem c_X_sheet (l : Launch) (G : xG) {d : Nat} (nn : Nat) (I : xI) (hd : 5 ≤ d) (hc tc ln : Nat) (S : Nat → xSay) (hK : cOK I hc tc ln S) (s sort n : Int32) : XM l G d y_X_sheet b_X_sheet 4 (some .int) 0 0 xK0 [.ref (xg G 0), .int s, .int sort, .int n] nn (xm G xYf I) (some (.int (aSheet s sort n))) nn (xm G xYf (mSheet I s sort n)) := by
  obtain ⟨⟨h10, h5⟩, ⟨h11, h6⟩, ⟨h12, hl⟩, hTs, hR⟩ := id hK
  refine XM.of (by decide) (Nat.le_of_ble_eq_true rfl) (L := [(0, .ref (xg G 0)), (1, .int s), (2, .int sort), (3, .int n)]) rfl ?_
  refine X_iload_n d_X_sheet_0 rfl rfl ?_
  refine X_callS (v := .int (xb (xin s 0 3))) (rest := []) (c_X_isSheet l G nn _ (by omega) s) lk_X_isSheet ml_X_267 rfl (Nat.le_of_ble_eq_true rfl) (xRok (d' := d - 1) (by omega) (by decide)) ⟨Nat.le_refl _, Nat.le_refl _⟩ d_X_sheet_1 rfl ?_
  refine X_ifb_eq (tgt := 16) d_X_sheet_4 (by decide) (fun c_1 => ?_) (fun c_1 => ?_)
  ·
    refine X_bipush (v := -2) d_X_sheet_16 rfl ?_
    exact X_iret rfl (congrArg (fun q => some (Value.int q)) (by first | (simp [aSheet, c_1, xl_m1, xl_1_0, xl_1_1, xl_2_0, xl_2_1, xl_2_2, xl_3_0, xl_3_1, xl_3_2, xl_3_3]; done) | (exfalso; simp_all; done) | (clear hTs hR hK; simp_all [aSheet, xl_m1]; done))) (xle_of (congrArg (xm G xYf) (by first | (simp [mSheet, xl_m1, c_1, xl_1_0, xl_1_1]; done) | (exfalso; simp_all; done)))) d_X_sheet_18
  ·
    obtain ⟨q, hq, rfl⟩ := cTop (n := 3) (by decide) c_1
    refine X_iload_n d_X_sheet_7 rfl rfl ?_
    refine X_iconst (v := -1) d_X_sheet_8 rfl ?_
    refine X_iconst (v := 2) d_X_sheet_9 rfl ?_
    refine X_callS (v := .int (xb (xin sort (-1) 2))) (rest := []) (c_X_within l G nn _ (by omega) sort (-1) 2) lk_X_within ml_X_105 rfl (Nat.le_of_ble_eq_true rfl) (xRok (d' := d - 1) (by omega) (by decide)) ⟨Nat.le_refl _, Nat.le_refl _⟩ d_X_sheet_10 rfl ?_
    refine X_ifb_ne (tgt := 19) d_X_sheet_13 (by decide) (fun c_2 => ?_) (fun c_2 => ?_)
    ·
      refine X_iload_n d_X_sheet_19 rfl rfl ?_
      refine X_iconst (v := -1) d_X_sheet_20 rfl ?_
      refine X_icmp_ne (tgt := 36) d_X_sheet_21 (by decide) (fun c_3 => ?_) (fun c_3 => ?_)
      ·
        refine X_iload_n d_X_sheet_36 rfl rfl ?_
        refine X_bipush (v := 40) d_X_sheet_37 rfl ?_
        refine X_icmp_le (tgt := 45) d_X_sheet_39 (by decide) (fun c_4 => ?_) (fun c_4 => ?_)
        ·
          refine X_iload_n d_X_sheet_45 rfl rfl ?_
          refine X_if_ge (tgt := 52) d_X_sheet_46 (by decide) (fun c_5 => ?_) (fun c_5 => ?_)
          ·
            refine X_aload_n d_X_sheet_52 rfl rfl ?_
            refine X_iload_n d_X_sheet_53 rfl rfl ?_
            refine X_callV (v := .ref (xg G (51 + 2 * q))) (rest := []) (c_X_sheetAt l G nn xYf I (by omega) xYok_f q (by omega)) lk_X_sheetAt ml_X_256 (xm_obj (y0 xYok_f)) rfl rfl (Nat.le_of_ble_eq_true rfl) (xRok (d' := d - 1) (by omega) (by decide)) ⟨Nat.le_refl _, Nat.le_refl _⟩ d_X_sheet_54 rfl ?_
            refine X_iload_n d_X_sheet_57 rfl rfl ?_
            refine X_iload_n d_X_sheet_58 rfl rfl ?_
            refine X_callVv (rest := []) (c_Sheet_begin l G nn xYf I (by omega) (51 + 2 * q) (yS xYok_f (show q < 4 by omega)).1 (yS xYok_f (show q < 4 by omega)).2 sort n) lk_Sheet_begin ml_X_270 (xm_obj (yS xYok_f (show q < 4 by omega)).1) rfl rfl (Nat.le_of_ble_eq_true rfl) (xRok (d' := d - 1) (by omega) (by decide)) ⟨Nat.le_refl _, Nat.le_refl _⟩ d_X_sheet_59 rfl ?_
            refine X_iconst (v := 1) d_X_sheet_62 rfl ?_
            exact X_iret rfl (congrArg (fun q => some (Value.int q)) (by first | (simp [aSheet, c_1, nI_cl (show q < 2 ^ 31 by omega), c_2, c_3, c_4, Int32.not_lt.mpr c_4, c_5, Int32.not_lt.mpr c_5, xl_m1, xl_1_0, xl_1_1, xl_2_0, xl_2_1, xl_2_2, xl_3_0, xl_3_1, xl_3_2, xl_3_3]; done) | (exfalso; simp_all; done) | (clear hTs hR hK; simp_all [aSheet, nI_cl (show q < 2 ^ 31 by omega), xl_m1]; done))) (xle_of (congrArg (xm G xYf) (by first | (simp [mSheet, xl_m1, c_1, nI_cl (show q < 2 ^ 31 by omega), c_2, c_3, c_4, Int32.not_lt.mpr c_4, c_5, Int32.not_lt.mpr c_5, xl_1_0, xl_1_1]; done) | (exfalso; simp_all; done)))) d_X_sheet_63
          ·
            refine X_bipush (v := -14) d_X_sheet_49 rfl ?_
            exact X_iret rfl (congrArg (fun q => some (Value.int q)) (by first | (simp [aSheet, c_1, nI_cl (show q < 2 ^ 31 by omega), c_2, c_3, c_4, Int32.not_lt.mpr c_4, c_5, Int32.not_le.mp c_5, xl_m1, xl_1_0, xl_1_1, xl_2_0, xl_2_1, xl_2_2, xl_3_0, xl_3_1, xl_3_2, xl_3_3]; done) | (exfalso; simp_all; done) | (clear hTs hR hK; simp_all [aSheet, nI_cl (show q < 2 ^ 31 by omega), xl_m1]; done))) (xle_of (congrArg (xm G xYf) (by first | (simp [mSheet, xl_m1, c_1, nI_cl (show q < 2 ^ 31 by omega), c_2, c_3, c_4, Int32.not_lt.mpr c_4, c_5, Int32.not_le.mp c_5, xl_1_0, xl_1_1]; done) | (exfalso; simp_all; done)))) d_X_sheet_51
        ·
          refine X_bipush (v := -2) d_X_sheet_42 rfl ?_
          exact X_iret rfl (congrArg (fun q => some (Value.int q)) (by first | (simp [aSheet, c_1, nI_cl (show q < 2 ^ 31 by omega), c_2, c_3, c_4, Int32.not_le.mp c_4, xl_m1, xl_1_0, xl_1_1, xl_2_0, xl_2_1, xl_2_2, xl_3_0, xl_3_1, xl_3_2, xl_3_3]; done) | (exfalso; simp_all; done) | (clear hTs hR hK; simp_all [aSheet, nI_cl (show q < 2 ^ 31 by omega), xl_m1]; done))) (xle_of (congrArg (xm G xYf) (by first | (simp [mSheet, xl_m1, c_1, nI_cl (show q < 2 ^ 31 by omega), c_2, c_3, c_4, Int32.not_le.mp c_4, xl_1_0, xl_1_1]; done) | (exfalso; simp_all; done)))) d_X_sheet_44
      ·
        refine X_aload_n d_X_sheet_24 rfl rfl ?_
        refine X_iload_n d_X_sheet_25 rfl rfl ?_
        refine X_callV (v := .ref (xg G (51 + 2 * q))) (rest := []) (c_X_sheetAt l G nn xYf I (by omega) xYok_f q (by omega)) lk_X_sheetAt ml_X_256 (xm_obj (y0 xYok_f)) rfl rfl (Nat.le_of_ble_eq_true rfl) (xRok (d' := d - 1) (by omega) (by decide)) ⟨Nat.le_refl _, Nat.le_refl _⟩ d_X_sheet_26 rfl ?_
        refine X_iconst (v := -1) d_X_sheet_29 rfl ?_
        refine X_iconst (v := 0) d_X_sheet_30 rfl ?_
        refine X_callVv (rest := []) (c_Sheet_begin l G nn xYf I (by omega) (51 + 2 * q) (yS xYok_f (show q < 4 by omega)).1 (yS xYok_f (show q < 4 by omega)).2 (-1) 0) lk_Sheet_begin ml_X_270 (xm_obj (yS xYok_f (show q < 4 by omega)).1) rfl rfl (Nat.le_of_ble_eq_true rfl) (xRok (d' := d - 1) (by omega) (by decide)) ⟨Nat.le_refl _, Nat.le_refl _⟩ d_X_sheet_31 rfl ?_
        refine X_iconst (v := 1) d_X_sheet_34 rfl ?_
        exact X_iret rfl (congrArg (fun q => some (Value.int q)) (by first | (simp [aSheet, c_1, nI_cl (show q < 2 ^ 31 by omega), c_2, c_3, xl_m1, xl_1_0, xl_1_1, xl_2_0, xl_2_1, xl_2_2, xl_3_0, xl_3_1, xl_3_2, xl_3_3]; done) | (exfalso; simp_all; done) | (clear hTs hR hK; simp_all [aSheet, nI_cl (show q < 2 ^ 31 by omega), xl_m1]; done))) (xle_of (congrArg (xm G xYf) (by first | (simp [mSheet, xl_m1, c_1, nI_cl (show q < 2 ^ 31 by omega), c_2, c_3, xl_1_0, xl_1_1]; done) | (exfalso; simp_all; done)))) d_X_sheet_35
    ·
      refine X_bipush (v := -2) d_X_sheet_16 rfl ?_
      exact X_iret rfl (congrArg (fun q => some (Value.int q)) (by first | (simp [aSheet, c_1, nI_cl (show q < 2 ^ 31 by omega), c_2, xl_m1, xl_1_0, xl_1_1, xl_2_0, xl_2_1, xl_2_2, xl_3_0, xl_3_1, xl_3_2, xl_3_3]; done) | (exfalso; simp_all; done) | (clear hTs hR hK; simp_all [aSheet, nI_cl (show q < 2 ^ 31 by omega), xl_m1]; done))) (xle_of (congrArg (xm G xYf) (by first | (simp [mSheet, xl_m1, c_1, nI_cl (show q < 2 ^ 31 by omega), c_2, xl_1_0, xl_1_1]; done) | (exfalso; simp_all; done)))) d_X_sheet_18
theorem c_X_cell (l : Launch) (G : xG) {d : Nat} (nn : Nat) (I : xI) (hd : 6 ≤ d) (hc tc ln : Nat) (S : Nat → xSay) (hK : cOK I hc tc ln S) (s i v : Int32) : XM l G d y_X_cell b_X_cell 5 (some .int) 0 0 xK0 [.ref (xg G 0), .int s, .int i, .int v] nn (xm G xYf I) (some (.int (aCell I s i v))) nn (xm G xYf (mCell I s i v)) := by
  obtain ⟨⟨h10, h5⟩, ⟨h11, h6⟩, ⟨h12, hl⟩, hTs, hR⟩ := id hK
  refine XM.of (by decide) (Nat.le_of_ble_eq_true rfl) (L := [(0, .ref (xg G 0)), (1, .int s), (2, .int i), (3, .int v)]) rfl ?_
  refine X_aload_n d_X_cell_0 rfl rfl ?_
  refine X_iload_n d_X_cell_1 rfl rfl ?_
  refine X_callV (v := .int (rSheet (fun q => I (51 + 2 * q) 1) s)) (rest := []) (c_X_refusalOfSheet l G nn I (by omega) hc tc ln S hK s) lk_X_refusalOfSheet ml_X_264 (xm_obj (y0 xYok_f)) rfl rfl (Nat.le_of_ble_eq_true rfl) (xRok (d' := d - 1) (by omega) (by decide)) ⟨Nat.le_refl _, Nat.le_refl _⟩ d_X_cell_2 rfl ?_
  refine X_istore d_X_cell_5 (by decide) [1, 2, 3, 4, 0] (L' := [(0, .ref (xg G 0)), (1, .int s), (2, .int i), (3, .int v), (4, .int (rSheet (fun q => I (51 + 2 * q) 1) s))]) rfl ?_
  refine X_iload d_X_cell_7 rfl ?_
  refine X_if_eq (tgt := 15) d_X_cell_9 (by decide) (fun c_1 => ?_) (fun c_1 => ?_)
  ·
    obtain ⟨q, hq, rfl, hsq⟩ := rSheet_ok c_1
    refine X_aload_n d_X_cell_15 rfl rfl ?_
    refine X_iload_n d_X_cell_16 rfl rfl ?_
    refine X_callV (v := .ref (xg G (51 + 2 * q))) (rest := []) (c_X_sheetAt l G nn xYf I (by omega) xYok_f q (by omega)) lk_X_sheetAt ml_X_256 (xm_obj (y0 xYok_f)) rfl rfl (Nat.le_of_ble_eq_true rfl) (xRok (d' := d - 1) (by omega) (by decide)) ⟨Nat.le_refl _, Nat.le_refl _⟩ d_X_cell_17 rfl ?_
    refine X_iload_n d_X_cell_20 rfl rfl ?_
    refine X_callV (v := .int (xb (shHas (I (51 + 2 * q)) i))) (rest := []) (c_Sheet_has l G nn xYf I (by omega) (51 + 2 * q) (yS xYok_f (show q < 4 by omega)).1 (yS xYok_f (show q < 4 by omega)).2 i) lk_Sheet_has ml_X_295 (xm_obj (yS xYok_f (show q < 4 by omega)).1) rfl rfl (Nat.le_of_ble_eq_true rfl) (xRok (d' := d - 1) (by omega) (by decide)) ⟨Nat.le_refl _, Nat.le_refl _⟩ d_X_cell_21 rfl ?_
    refine X_ifb_ne (tgt := 30) d_X_cell_24 (by decide) (fun c_2 => ?_) (fun c_2 => ?_)
    ·
      refine X_aload_n d_X_cell_30 rfl rfl ?_
      refine X_iload_n d_X_cell_31 rfl rfl ?_
      refine X_callV (v := .ref (xg G (51 + 2 * q))) (rest := []) (c_X_sheetAt l G nn xYf I (by omega) xYok_f q (by omega)) lk_X_sheetAt ml_X_256 (xm_obj (y0 xYok_f)) rfl rfl (Nat.le_of_ble_eq_true rfl) (xRok (d' := d - 1) (by omega) (by decide)) ⟨Nat.le_refl _, Nat.le_refl _⟩ d_X_cell_32 rfl ?_
      refine X_iload_n d_X_cell_35 rfl rfl ?_
      refine X_iload_n d_X_cell_36 rfl rfl ?_
      refine X_callVv (rest := []) (c_Sheet_put l G nn xYf I (by omega) (51 + 2 * q) (yS xYok_f (show q < 4 by omega)).1 (yS xYok_f (show q < 4 by omega)).2 i v) lk_Sheet_put ml_X_274 (xm_obj (yS xYok_f (show q < 4 by omega)).1) rfl rfl (Nat.le_of_ble_eq_true rfl) (xRok (d' := d - 1) (by omega) (by decide)) ⟨Nat.le_refl _, Nat.le_refl _⟩ d_X_cell_37 rfl ?_
      refine X_iconst (v := 1) d_X_cell_40 rfl ?_
      exact X_iret rfl (congrArg (fun q => some (Value.int q)) (by first | (simp [aCell, c_1, nI_cl (show q < 2 ^ 31 by omega), c_2, xl_1_0, xl_1_1, xl_2_0, xl_2_1, xl_2_2, xl_3_0, xl_3_1, xl_3_2, xl_3_3]; done) | (exfalso; simp_all; done) | (clear hTs hR hK; simp_all [aCell, nI_cl (show q < 2 ^ 31 by omega)]; done))) (xle_of (congrArg (xm G xYf) (by first | (simp [mCell, c_1, nI_cl (show q < 2 ^ 31 by omega), c_2, xl_1_0, xl_1_1]; done) | (exfalso; simp_all; done)))) d_X_cell_41
    ·
      refine X_bipush (v := -12) d_X_cell_27 rfl ?_
      exact X_iret rfl (congrArg (fun q => some (Value.int q)) (by first | (simp [aCell, c_1, nI_cl (show q < 2 ^ 31 by omega), c_2, xl_1_0, xl_1_1, xl_2_0, xl_2_1, xl_2_2, xl_3_0, xl_3_1, xl_3_2, xl_3_3]; done) | (exfalso; simp_all; done) | (clear hTs hR hK; simp_all [aCell, nI_cl (show q < 2 ^ 31 by omega)]; done))) (xle_of (congrArg (xm G xYf) (by first | (simp [mCell, c_1, nI_cl (show q < 2 ^ 31 by omega), c_2, xl_1_0, xl_1_1]; done) | (exfalso; simp_all; done)))) d_X_cell_29
  ·
    refine X_iload d_X_cell_12 rfl ?_
    exact X_iret rfl (congrArg (fun q => some (Value.int q)) (by first | (simp [aCell, c_1, xl_1_0, xl_1_1, xl_2_0, xl_2_1, xl_2_2, xl_3_0, xl_3_1, xl_3_2, xl_3_3]; done) | (exfalso; simp_all; done) | (clear hTs hR hK; simp_all [aCell]; done))) (xle_of (congrArg (xm G xYf) (by first | (simp [mCell, c_1, xl_1_0, xl_1_1]; done) | (exfalso; simp_all; done)))) d_X_cell_14
def mHead (I : xI) (hc : Nat) (kind more : Int32) : xI := if xin kind 0 5 = true ∧ xin more 0 9 = true then (if 5 ≤ hc then I else xw (xup I (17 + 2 * hc) (hBegin kind more (I (17 + 2 * hc)))) 0 10 (nI hc + 1)) else I
theorem c_X_head (l : Launch) (G : xG) {d : Nat} (nn : Nat) (I : xI) (hd : 4 ≤ d) (hc tc ln : Nat) (S : Nat → xSay) (hK : cOK I hc tc ln S) (kind more : Int32) : XM l G d y_X_head b_X_head 3 (some .int) 0 0 xK0 [.ref (xg G 0), .int kind, .int more] nn (xm G xYf I) (some (.int (aHead hc kind more))) nn (xm G xYf (mHead I hc kind more)) := by
  obtain ⟨⟨h10, h5⟩, ⟨h11, h6⟩, ⟨h12, hl⟩, hTs, hR⟩ := id hK
  refine XM.of (by decide) (Nat.le_of_ble_eq_true rfl) (L := [(0, .ref (xg G 0)), (1, .int kind), (2, .int more)]) rfl ?_
  refine X_iload_n d_X_head_0 rfl rfl ?_
  refine X_callS (v := .int (xb (xin kind 0 5))) (rest := []) (c_X_isKind l G nn _ (by omega) kind) lk_X_isKind ml_X_132 rfl (Nat.le_of_ble_eq_true rfl) (xRok (d' := d - 1) (by omega) (by decide)) ⟨Nat.le_refl _, Nat.le_refl _⟩ d_X_head_1 rfl ?_
  refine X_ifb_eq (tgt := 17) d_X_head_4 (by decide) (fun c_1 => ?_) (fun c_1 => ?_)
  ·
    refine X_bipush (v := -2) d_X_head_17 rfl ?_
    exact X_iret rfl (congrArg (fun q => some (Value.int q)) (by first | (simp [aHead, c_1, nI_1, nI_pred, xl_1_0, xl_1_1, xl_2_0, xl_2_1, xl_2_2, xl_3_0, xl_3_1, xl_3_2, xl_3_3]; done) | (exfalso; simp_all; done) | (clear hTs hR hK; simp_all [aHead, nI_1, nI_pred]; done))) (xle_of (congrArg (xm G xYf) (by first | (simp [mHead, c_1]; done) | (exfalso; simp_all; done)))) d_X_head_19
  ·
    refine X_iload_n d_X_head_7 rfl rfl ?_
    refine X_iconst (v := 0) d_X_head_8 rfl ?_
    refine X_bipush (v := 9) d_X_head_9 rfl ?_
    refine X_callS (v := .int (xb (xin more 0 9))) (rest := []) (c_X_within l G nn _ (by omega) more 0 9) lk_X_within ml_X_105 rfl (Nat.le_of_ble_eq_true rfl) (xRok (d' := d - 1) (by omega) (by decide)) ⟨Nat.le_refl _, Nat.le_refl _⟩ d_X_head_11 rfl ?_
    refine X_ifb_ne (tgt := 20) d_X_head_14 (by decide) (fun c_2 => ?_) (fun c_2 => ?_)
    ·
      refine X_aload_n d_X_head_20 rfl rfl ?_
      refine X_getI (v := nI hc) fg_X_59 (y0 xYok_f) rfl (h10) d_X_head_21 ?_
      refine X_iconst (v := 5) d_X_head_24 rfl ?_
      refine X_icmp_lt (tgt := 31) d_X_head_25 (by decide) (fun c_3 => ?_) (fun c_3 => ?_)
      ·
        have hlt : hc < 5 := (nI_ltI (b := 5) (by omega) (by decide)).mp c_3
        refine X_aload_n d_X_head_31 rfl rfl ?_
        refine X_aload_n d_X_head_32 rfl rfl ?_
        refine X_getI (v := nI hc) fg_X_59 (y0 xYok_f) rfl (h10) d_X_head_33 ?_
        refine X_callV (v := .ref (xg G (17 + 2 * hc))) (rest := []) (c_X_headAt l G nn xYf I (by omega) xYok_f hc (by omega)) lk_X_headAt ml_X_124 (xm_obj (y0 xYok_f)) rfl rfl (Nat.le_of_ble_eq_true rfl) (xRok (d' := d - 1) (by omega) (by decide)) ⟨Nat.le_refl _, Nat.le_refl _⟩ d_X_head_36 rfl ?_
        refine X_iload_n d_X_head_39 rfl rfl ?_
        refine X_iload_n d_X_head_40 rfl rfl ?_
        refine X_callVv (rest := []) (k_Head_begin l G nn xYf I (by omega) (17 + 2 * hc) (yH xYok_f (show hc < 5 by omega)) kind more (I (17 + 2 * hc)) (rfl)) lk_Head_begin ml_X_135 (xm_obj (yH xYok_f (show hc < 5 by omega))) rfl rfl (Nat.le_of_ble_eq_true rfl) (xRok (d' := d - 1) (by omega) (by decide)) ⟨Nat.le_refl _, Nat.le_refl _⟩ d_X_head_41 rfl ?_
        refine X_aload_n d_X_head_44 rfl rfl ?_
        refine X_dup d_X_head_45 rfl ?_
        refine X_getI (v := nI hc) fg_X_59 (y0 xYok_f) rfl ((congrFun (xup_n _ _ (by omega)) _).trans (h10)) d_X_head_46 ?_
        refine X_iconst (v := 1) d_X_head_49 rfl ?_
        refine X_iadd d_X_head_50 ?_
        refine X_putI fp_X_59 (y0 xYok_f) rfl d_X_head_51 ?_
        refine X_aload_n d_X_head_54 rfl rfl ?_
        refine X_getI (v := (nI hc) + 1) fg_X_59 (y0 xYok_f) rfl (xw_s _ _ _ _) d_X_head_55 ?_
        refine X_iconst (v := 1) d_X_head_58 rfl ?_
        refine X_isub d_X_head_59 ?_
        exact X_iret rfl (congrArg (fun q => some (Value.int q)) (by first | (simp [aHead, c_1, c_2, c_3, Int32.not_le.mpr c_3, Nat.not_le.mpr hlt, nI_1, nI_pred, xl_1_0, xl_1_1, xl_2_0, xl_2_1, xl_2_2, xl_3_0, xl_3_1, xl_3_2, xl_3_3]; done) | (exfalso; simp_all; done) | (clear hTs hR hK; simp_all [aHead, nI_1, nI_pred]; done))) (xle_of (congrArg (xm G xYf) (by first | (simp [mHead, c_1, c_2, c_3, Int32.not_le.mpr c_3, Nat.not_le.mpr hlt]; done) | (exfalso; simp_all; done)))) d_X_head_60
      ·
        have hge : 5 ≤ hc := (nI_leI (a := 5) (by decide) (by omega)).mp (Int32.not_lt.mp c_3)
        refine X_bipush (v := -4) d_X_head_28 rfl ?_
        exact X_iret rfl (congrArg (fun q => some (Value.int q)) (by first | (simp [aHead, c_1, c_2, c_3, Int32.not_lt.mp c_3, hge, nI_1, nI_pred, xl_1_0, xl_1_1, xl_2_0, xl_2_1, xl_2_2, xl_3_0, xl_3_1, xl_3_2, xl_3_3]; done) | (exfalso; simp_all; done) | (clear hTs hR hK; simp_all [aHead, nI_1, nI_pred]; done))) (xle_of (congrArg (xm G xYf) (by first | (simp [mHead, c_1, c_2, c_3, Int32.not_lt.mp c_3, hge]; done) | (exfalso; simp_all; done)))) d_X_head_30
    ·
      refine X_bipush (v := -2) d_X_head_17 rfl ?_
      exact X_iret rfl (congrArg (fun q => some (Value.int q)) (by first | (simp [aHead, c_1, c_2, nI_1, nI_pred, xl_1_0, xl_1_1, xl_2_0, xl_2_1, xl_2_2, xl_3_0, xl_3_1, xl_3_2, xl_3_3]; done) | (exfalso; simp_all; done) | (clear hTs hR hK; simp_all [aHead, nI_1, nI_pred]; done))) (xle_of (congrArg (xm G xYf) (by first | (simp [mHead, c_1, c_2]; done) | (exfalso; simp_all; done)))) d_X_head_19
def aTaken (hc : Nat) (R : Nat → Nat → Int32) (i kind : Int32) : Int32 := if xin kind 0 6 = true then (if xin i 0 9 = true then (if 5 ≤ i then (if xin (i - 5) 0 (nI hc - 1) = true then (if kind = 6 then R (i - 5).toNatClampNeg 7 else -13) else -11) else (if xin i 0 (nI hc - 1) = true then (if kind = 6 then -13 else if kOne (R i.toNatClampNeg 0) kind = true then i else -13) else -11)) else -12) else -2
theorem c_X_taken (l : Launch) (G : xG) {d : Nat} (nn : Nat) (I : xI) (hd : 4 ≤ d) (hc tc ln : Nat) (S : Nat → xSay) (hK : cOK I hc tc ln S) (i kind : Int32) : XM l G d y_X_taken b_X_taken 5 (some .int) 0 0 xK0 [.ref (xg G 0), .int i, .int kind] nn (xm G xYf I) (some (.int (aTaken hc (fun i => I (17 + 2 * i)) i kind))) nn (xm G xYf (I)) := by
  obtain ⟨⟨h10, h5⟩, ⟨h11, h6⟩, ⟨h12, hl⟩, hTs, hR⟩ := id hK
  refine XM.of (by decide) (Nat.le_of_ble_eq_true rfl) (L := [(0, .ref (xg G 0)), (1, .int i), (2, .int kind)]) rfl ?_
  refine X_iload_n d_X_taken_0 rfl rfl ?_
  refine X_iconst (v := 0) d_X_taken_1 rfl ?_
  refine X_bipush (v := 6) d_X_taken_2 rfl ?_
  refine X_callS (v := .int (xb (xin kind 0 6))) (rest := []) (c_X_within l G nn _ (by omega) kind 0 6) lk_X_within ml_X_105 rfl (Nat.le_of_ble_eq_true rfl) (xRok (d' := d - 1) (by omega) (by decide)) ⟨Nat.le_refl _, Nat.le_refl _⟩ d_X_taken_4 rfl ?_
  refine X_ifb_ne (tgt := 13) d_X_taken_7 (by decide) (fun c_1 => ?_) (fun c_1 => ?_)
  ·
    refine X_iload_n d_X_taken_13 rfl rfl ?_
    refine X_iconst (v := 0) d_X_taken_14 rfl ?_
    refine X_bipush (v := 9) d_X_taken_15 rfl ?_
    refine X_callS (v := .int (xb (xin i 0 9))) (rest := []) (c_X_within l G nn _ (by omega) i 0 9) lk_X_within ml_X_105 rfl (Nat.le_of_ble_eq_true rfl) (xRok (d' := d - 1) (by omega) (by decide)) ⟨Nat.le_refl _, Nat.le_refl _⟩ d_X_taken_17 rfl ?_
    refine X_ifb_ne (tgt := 26) d_X_taken_20 (by decide) (fun c_2 => ?_) (fun c_2 => ?_)
    ·
      refine X_iload_n d_X_taken_26 rfl rfl ?_
      refine X_iconst (v := 5) d_X_taken_27 rfl ?_
      refine X_icmp_lt (tgt := 35) d_X_taken_28 (by decide) (fun c_3 => ?_) (fun c_3 => ?_)
      ·
        refine X_iconst (v := 0) d_X_taken_35 rfl ?_
        refine X_istore_n d_X_taken_36 rfl (by decide) [1, 2, 3, 0] (L' := [(0, .ref (xg G 0)), (1, .int i), (2, .int kind), (3, .int 0)]) rfl ?_
        refine X_iload_n d_X_taken_37 rfl rfl ?_
        refine X_if_eq (tgt := 47) d_X_taken_38 (by decide) (fun _ => ?_) (fun c_4 => absurd c_4 (by decide))
        refine X_iload_n d_X_taken_47 rfl rfl ?_
        refine X_istore d_X_taken_48 (by decide) [1, 2, 3, 4, 0] (L' := [(0, .ref (xg G 0)), (1, .int i), (2, .int kind), (3, .int 0), (4, .int i)]) rfl ?_
        refine X_aload_n d_X_taken_50 rfl rfl ?_
        refine X_iload d_X_taken_51 rfl ?_
        refine X_callV (v := .int (xb (xin i 0 (nI hc - 1)))) (rest := []) (c_X_isHead l G nn xYf I (by omega) xYok_f i (nI hc) (h10)) lk_X_isHead ml_X_113 (xm_obj (y0 xYok_f)) rfl rfl (Nat.le_of_ble_eq_true rfl) (xRok (d' := d - 1) (by omega) (by decide)) ⟨Nat.le_refl _, Nat.le_refl _⟩ d_X_taken_53 rfl ?_
        refine X_ifb_ne (tgt := 62) d_X_taken_56 (by decide) (fun c_5 => ?_) (fun c_5 => ?_)
        ·
          obtain ⟨e, he, rfl⟩ := cHead h5 c_5
          refine X_iload_n d_X_taken_62 rfl rfl ?_
          refine X_iload_n d_X_taken_63 rfl rfl ?_
          refine X_bipush (v := 6) d_X_taken_64 rfl ?_
          refine X_icmp_ne (tgt := 73) d_X_taken_66 (by decide) (fun c_6 => ?_) (fun c_6 => ?_)
          ·
            refine X_iconst (v := 0) d_X_taken_73 rfl ?_
            refine X_icmp_eq (tgt := 80) d_X_taken_74 (by decide) (fun _ => ?_) (fun c_7 => absurd c_7 (by decide))
            refine X_iload_n d_X_taken_80 rfl rfl ?_
            refine X_if_eq (tgt := 102) d_X_taken_81 (by decide) (fun _ => ?_) (fun c_8 => absurd c_8 (by decide))
            refine X_aload_n d_X_taken_102 rfl rfl ?_
            refine X_iload d_X_taken_103 rfl ?_
            refine X_callV (v := .ref (xg G (17 + 2 * e))) (rest := []) (c_X_headAt l G nn xYf I (by omega) xYok_f e (by omega)) lk_X_headAt ml_X_124 (xm_obj (y0 xYok_f)) rfl rfl (Nat.le_of_ble_eq_true rfl) (xRok (d' := d - 1) (by omega) (by decide)) ⟨Nat.le_refl _, Nat.le_refl _⟩ d_X_taken_105 rfl ?_
            refine X_getI (v := I (17 + 2 * e) 0) fg_X_150 (yH xYok_f (show e < 5 by omega)) rfl (rfl) d_X_taken_108 ?_
            refine X_iload_n d_X_taken_111 rfl rfl ?_
            refine X_callS (v := .int (xb (kOne (I (17 + 2 * e) 0) kind))) (rest := []) (c_Kind_isOne l G nn _ (by omega) (I (17 + 2 * e) 0) kind) lk_Kind_isOne ml_X_322 rfl (Nat.le_of_ble_eq_true rfl) (xRok (d' := d - 1) (by omega) (by decide)) ⟨Nat.le_refl _, Nat.le_refl _⟩ d_X_taken_112 rfl ?_
            refine X_ifb_eq (tgt := 123) d_X_taken_115 (by decide) (fun c_9 => ?_) (fun c_9 => ?_)
            ·
              refine X_bipush (v := -13) d_X_taken_123 rfl ?_
              exact X_iret rfl (congrArg (fun q => some (Value.int q)) (by first | (simp [aTaken, c_1, c_2, c_3, Int32.not_le.mpr c_3, c_5, nI_cl (show e < 2 ^ 31 by omega), c_6, c_9, xl_66, xl_1_0, xl_1_1, xl_2_0, xl_2_1, xl_2_2, xl_3_0, xl_3_1, xl_3_2, xl_3_3]; done) | (exfalso; simp_all; done) | (clear hTs hR hK; simp_all [aTaken, nI_cl (show e < 2 ^ 31 by omega), xl_66]; done))) (xle_rf _) d_X_taken_125
            ·
              refine X_iload d_X_taken_118 rfl ?_
              refine X_goto (tgt := 125) d_X_taken_120 (by decide) ?_
              exact X_iret rfl (congrArg (fun q => some (Value.int q)) (by first | (simp [aTaken, c_1, c_2, c_3, Int32.not_le.mpr c_3, c_5, nI_cl (show e < 2 ^ 31 by omega), c_6, c_9, xl_66, xl_1_0, xl_1_1, xl_2_0, xl_2_1, xl_2_2, xl_3_0, xl_3_1, xl_3_2, xl_3_3]; done) | (exfalso; simp_all; done) | (clear hTs hR hK; simp_all [aTaken, nI_cl (show e < 2 ^ 31 by omega), xl_66]; done))) (xle_rf _) d_X_taken_125
          ·
            refine X_iconst (v := 1) d_X_taken_69 rfl ?_
            refine X_goto (tgt := 74) d_X_taken_70 (by decide) ?_
            refine X_icmp_eq (tgt := 80) d_X_taken_74 (by decide) (fun c_10 => absurd c_10 (by decide)) (fun _ => ?_)
            refine X_bipush (v := -13) d_X_taken_77 rfl ?_
            exact X_iret rfl (congrArg (fun q => some (Value.int q)) (by first | (simp [aTaken, c_1, c_2, c_3, Int32.not_le.mpr c_3, c_5, nI_cl (show e < 2 ^ 31 by omega), c_6, xl_66, xl_1_0, xl_1_1, xl_2_0, xl_2_1, xl_2_2, xl_3_0, xl_3_1, xl_3_2, xl_3_3]; done) | (exfalso; simp_all; done) | (clear hTs hR hK; simp_all [aTaken, nI_cl (show e < 2 ^ 31 by omega), xl_66]; done))) (xle_rf _) d_X_taken_79
        ·
          refine X_bipush (v := -11) d_X_taken_59 rfl ?_
          exact X_iret rfl (congrArg (fun q => some (Value.int q)) (by first | (simp [aTaken, c_1, c_2, c_3, Int32.not_le.mpr c_3, c_5, xl_66, xl_1_0, xl_1_1, xl_2_0, xl_2_1, xl_2_2, xl_3_0, xl_3_1, xl_3_2, xl_3_3]; done) | (exfalso; simp_all; done) | (clear hTs hR hK; simp_all [aTaken, xl_66]; done))) (xle_rf _) d_X_taken_61
      ·
        refine X_iconst (v := 1) d_X_taken_31 rfl ?_
        refine X_goto (tgt := 36) d_X_taken_32 (by decide) ?_
        refine X_istore_n d_X_taken_36 rfl (by decide) [1, 2, 3, 0] (L' := [(0, .ref (xg G 0)), (1, .int i), (2, .int kind), (3, .int 1)]) rfl ?_
        refine X_iload_n d_X_taken_37 rfl rfl ?_
        refine X_if_eq (tgt := 47) d_X_taken_38 (by decide) (fun c_11 => absurd c_11 (by decide)) (fun _ => ?_)
        refine X_iload_n d_X_taken_41 rfl rfl ?_
        refine X_iconst (v := 5) d_X_taken_42 rfl ?_
        refine X_isub d_X_taken_43 ?_
        refine X_goto (tgt := 48) d_X_taken_44 (by decide) ?_
        refine X_istore d_X_taken_48 (by decide) [1, 2, 3, 4, 0] (L' := [(0, .ref (xg G 0)), (1, .int i), (2, .int kind), (3, .int 1), (4, .int (i - 5))]) rfl ?_
        refine X_aload_n d_X_taken_50 rfl rfl ?_
        refine X_iload d_X_taken_51 rfl ?_
        refine X_callV (v := .int (xb (xin (i - 5) 0 (nI hc - 1)))) (rest := []) (c_X_isHead l G nn xYf I (by omega) xYok_f (i - 5) (nI hc) (h10)) lk_X_isHead ml_X_113 (xm_obj (y0 xYok_f)) rfl rfl (Nat.le_of_ble_eq_true rfl) (xRok (d' := d - 1) (by omega) (by decide)) ⟨Nat.le_refl _, Nat.le_refl _⟩ d_X_taken_53 rfl ?_
        refine X_ifb_ne (tgt := 62) d_X_taken_56 (by decide) (fun c_12 => ?_) (fun c_12 => ?_)
        ·
          obtain ⟨e, he, hie⟩ := cHead h5 c_12
          simp only [hie]
          refine X_iload_n d_X_taken_62 rfl rfl ?_
          refine X_iload_n d_X_taken_63 rfl rfl ?_
          refine X_bipush (v := 6) d_X_taken_64 rfl ?_
          refine X_icmp_ne (tgt := 73) d_X_taken_66 (by decide) (fun c_13 => ?_) (fun c_13 => ?_)
          ·
            refine X_iconst (v := 0) d_X_taken_73 rfl ?_
            refine X_icmp_eq (tgt := 80) d_X_taken_74 (by decide) (fun c_14 => absurd c_14 (by decide)) (fun _ => ?_)
            refine X_bipush (v := -13) d_X_taken_77 rfl ?_
            exact X_iret rfl (congrArg (fun q => some (Value.int q)) (by first | (simp [aTaken, c_1, c_2, c_3, Int32.not_lt.mp c_3, c_12, hie, nI_cl (show e < 2 ^ 31 by omega), c_13, xl_66, xl_1_0, xl_1_1, xl_2_0, xl_2_1, xl_2_2, xl_3_0, xl_3_1, xl_3_2, xl_3_3]; done) | (exfalso; simp_all; done) | (clear hTs hR hK; simp_all [aTaken, nI_cl (show e < 2 ^ 31 by omega), xl_66]; done))) (xle_rf _) d_X_taken_79
          ·
            refine X_iconst (v := 1) d_X_taken_69 rfl ?_
            refine X_goto (tgt := 74) d_X_taken_70 (by decide) ?_
            refine X_icmp_eq (tgt := 80) d_X_taken_74 (by decide) (fun _ => ?_) (fun c_15 => absurd c_15 (by decide))
            refine X_iload_n d_X_taken_80 rfl rfl ?_
            refine X_if_eq (tgt := 102) d_X_taken_81 (by decide) (fun c_16 => absurd c_16 (by decide)) (fun _ => ?_)
            refine X_aload_n d_X_taken_84 rfl rfl ?_
            refine X_iload d_X_taken_85 rfl ?_
            refine X_callV (v := .ref (xg G (17 + 2 * e))) (rest := []) (c_X_headAt l G nn xYf I (by omega) xYok_f e (by omega)) lk_X_headAt ml_X_124 (xm_obj (y0 xYok_f)) rfl rfl (Nat.le_of_ble_eq_true rfl) (xRok (d' := d - 1) (by omega) (by decide)) ⟨Nat.le_refl _, Nat.le_refl _⟩ d_X_taken_87 rfl ?_
            refine X_getI (v := I (17 + 2 * e) 7) fg_X_162 (yH xYok_f (show e < 5 by omega)) rfl (rfl) d_X_taken_90 ?_
            refine X_if_eq (tgt := 100) d_X_taken_93 (by decide) (fun c_17 => ?_) (fun c_17 => ?_)
            ·
              refine X_iconst (v := 0) d_X_taken_100 rfl ?_
              exact X_iret rfl (congrArg (fun q => some (Value.int q)) (by first | (simp [aTaken, c_1, c_2, c_3, Int32.not_lt.mp c_3, c_12, hie, nI_cl (show e < 2 ^ 31 by omega), c_13, c_17, xl_66, xl_1_0, xl_1_1, xl_2_0, xl_2_1, xl_2_2, xl_3_0, xl_3_1, xl_3_2, xl_3_3]; done) | (exfalso; simp_all; done) | (clear hTs hR hK; simp_all [aTaken, nI_cl (show e < 2 ^ 31 by omega), xl_66]; done))) (xle_rf _) d_X_taken_101
            ·
              refine X_iconst (v := 1) d_X_taken_96 rfl ?_
              refine X_goto (tgt := 101) d_X_taken_97 (by decide) ?_
              have h71 := (hR e (by omega)).1.resolve_left c_17
              exact X_iret rfl (congrArg (fun q => some (Value.int q)) (by first | (simp [aTaken, c_1, c_2, c_3, Int32.not_lt.mp c_3, c_12, hie, nI_cl (show e < 2 ^ 31 by omega), c_13, c_17, h71, xl_66, xl_1_0, xl_1_1, xl_2_0, xl_2_1, xl_2_2, xl_3_0, xl_3_1, xl_3_2, xl_3_3]; done) | (exfalso; simp_all; done) | (clear hTs hR hK; simp_all [aTaken, nI_cl (show e < 2 ^ 31 by omega), xl_66]; done))) (xle_rf _) d_X_taken_101
        ·
          refine X_bipush (v := -11) d_X_taken_59 rfl ?_
          exact X_iret rfl (congrArg (fun q => some (Value.int q)) (by first | (simp [aTaken, c_1, c_2, c_3, Int32.not_lt.mp c_3, c_12, xl_66, xl_1_0, xl_1_1, xl_2_0, xl_2_1, xl_2_2, xl_3_0, xl_3_1, xl_3_2, xl_3_3]; done) | (exfalso; simp_all; done) | (clear hTs hR hK; simp_all [aTaken, xl_66]; done))) (xle_rf _) d_X_taken_61
    ·
      refine X_bipush (v := -12) d_X_taken_23 rfl ?_
      exact X_iret rfl (congrArg (fun q => some (Value.int q)) (by first | (simp [aTaken, c_1, c_2, xl_66, xl_1_0, xl_1_1, xl_2_0, xl_2_1, xl_2_2, xl_3_0, xl_3_1, xl_3_2, xl_3_3]; done) | (exfalso; simp_all; done) | (clear hTs hR hK; simp_all [aTaken, xl_66]; done))) (xle_rf _) d_X_taken_25
  ·
    refine X_bipush (v := -2) d_X_taken_10 rfl ?_
    exact X_iret rfl (congrArg (fun q => some (Value.int q)) (by first | (simp [aTaken, c_1, xl_66, xl_1_0, xl_1_1, xl_2_0, xl_2_1, xl_2_2, xl_3_0, xl_3_1, xl_3_2, xl_3_3]; done) | (exfalso; simp_all; done) | (clear hTs hR hK; simp_all [aTaken, xl_66]; done))) (xle_rf _) d_X_taken_12
def cpI (I : xI) (n : Nat) : xI := fun a => if 18 ≤ a ∧ a < 18 + 2 * n ∧ a % 2 = 0 then I (a - 1) else I a
def cpB (I : xI) (n : Nat) : xI := fun a => if 17 ≤ a ∧ a < 17 + 2 * n ∧ a % 2 = 1 then I (a + 1) else I a
theorem cpI_0 (I : xI) : cpI I 0 = I := by funext a; simp [cpI]; omega
theorem cpB_0 (I : xI) : cpB I 0 = I := by funext a; simp [cpB]; omega
theorem cpI_s (I : xI) (n : Nat) : xup (cpI I n) (18 + 2 * n) (I (17 + 2 * n)) = cpI I (n + 1) := by
  funext a
  by_cases h : a = 18 + 2 * n
  · subst h
    rw [xup_s, cpI, if_pos (by omega)]
    congr 1
    omega
  · rw [xup_n _ _ h, cpI, cpI]
    by_cases h2 : 18 ≤ a ∧ a < 18 + 2 * n ∧ a % 2 = 0
    · rw [if_pos h2, if_pos (by omega)]
    · rw [if_neg h2, if_neg (by omega)]
theorem cpB_s (I : xI) (n : Nat) : xup (cpB I n) (17 + 2 * n) (I (18 + 2 * n)) = cpB I (n + 1) := by
  funext a
  by_cases h : a = 17 + 2 * n
  · subst h
    rw [xup_s, cpB, if_pos (by omega)]
    congr 1
    omega
  · rw [xup_n _ _ h, cpB, cpB]
    by_cases h2 : 17 ≤ a ∧ a < 17 + 2 * n ∧ a % 2 = 1
    · rw [if_pos h2, if_pos (by omega)]
    · rw [if_neg h2, if_neg (by omega)]
theorem cpI_o (I : xI) (n : Nat) {a : Nat} (h : a % 2 = 1 ∨ a < 18) : cpI I n a = I a := if_neg (by omega)
theorem cpB_o (I : xI) (n : Nat) {a : Nat} (h : a % 2 = 0 ∨ a < 17) : cpB I n a = I a := if_neg (by omega)
theorem cpI_n (I : xI) (n : Nat) : cpI I n (18 + 2 * n) = I (18 + 2 * n) := if_neg (by omega)
theorem cpB_n (I : xI) (n : Nat) : cpB I n (17 + 2 * n) = I (17 + 2 * n) := if_neg (by omega)
def mImage (I : xI) (hc ln : Nat) : xI := xw (xw (cpI I hc) 0 13 (nI hc)) 0 14 (nI ln)
def mBack (I : xI) (ic il : Nat) : xI := xw (xw (cpB I ic) 0 10 (nI ic)) 0 12 (nI il)
def Q_X_image (l : Launch) (G : xG) (d nn : Nat) (I : xI) (hc ln : Nat)  (j : Nat) : Prop := XW l G (xR d 0 0) y_X_image b_X_image 2 (some .int) xK0 (xZ G nn (xm G xYf (mImage I hc ln)) (some (.int (nI hc))) 0 0) nn (xm G xYf (cpI I j)) 0 0 2 [(0, .ref (xg G 0)), (1, .int (nI j))] []
theorem w_X_image (l : Launch) (G : xG) {d : Nat} (nn : Nat) (I : xI) (hd : 4 ≤ d) (hc tc ln : Nat) (S : Nat → xSay) (hK : cOK I hc tc ln S) (hR2 : ∀ i, i < 5 → hOK (I (18 + 2 * i))) (j : Nat) (hj : j ≤ hc) (ih : j < hc → Q_X_image l G d nn I hc ln (j + 1)) : Q_X_image l G d nn I hc ln j := by
  obtain ⟨⟨h10, h5⟩, ⟨h11, h6⟩, ⟨h12, hl⟩, hTs, hR⟩ := id hK
  unfold Q_X_image
  refine X_iload_n d_X_image_2 rfl rfl ?_
  refine X_aload_n d_X_image_3 rfl rfl ?_
  refine X_getI (v := nI hc) fg_X_59 (y0 xYok_f) rfl ((congrFun (cpI_o I j (by omega)) _).trans h10) d_X_image_4 ?_
  refine X_icmp_ge (tgt := 29) d_X_image_7 (by decide) (fun c_1 => ?_) (fun c_1 => ?_)
  ·
    refine X_aload_n d_X_image_29 rfl rfl ?_
    refine X_aload_n d_X_image_30 rfl rfl ?_
    refine X_getI (v := nI hc) fg_X_59 (y0 xYok_f) rfl ((congrFun (cpI_o I j (by omega)) _).trans h10) d_X_image_31 ?_
    refine X_putI fp_X_69 (y0 xYok_f) rfl d_X_image_34 ?_
    refine X_aload_n d_X_image_37 rfl rfl ?_
    refine X_aload_n d_X_image_38 rfl rfl ?_
    refine X_getI (v := nI ln) fg_X_66 (y0 xYok_f) rfl ((xw_k _ _ _ (by decide)).trans ((congrFun (cpI_o I j (by omega)) _).trans h12)) d_X_image_39 ?_
    refine X_putI fp_X_72 (y0 xYok_f) rfl d_X_image_42 ?_
    refine X_aload_n d_X_image_45 rfl rfl ?_
    refine X_getI (v := nI hc) fg_X_59 (y0 xYok_f) rfl ((xw_k _ _ _ (by decide)).trans ((xw_k _ _ _ (by decide)).trans ((congrFun (cpI_o I j (by omega)) _).trans h10))) d_X_image_46 ?_
    have hdone := nI_done hj (by omega) c_1
    subst hdone
    exact X_iret rfl rfl (xle_rf _) d_X_image_49
  ·
    refine X_aload_n d_X_image_10 rfl rfl ?_
    refine X_iload_n d_X_image_11 rfl rfl ?_
    refine X_callV (v := .ref (xg G (18 + 2 * j))) (rest := []) (c_X_imageHeadAt l G nn xYf (cpI I j) (by omega) xYok_f j (Nat.lt_of_lt_of_le (nI_more hj (by omega) c_1) (by omega))) lk_X_imageHeadAt ml_X_292 (xm_obj (y0 xYok_f)) rfl rfl (Nat.le_of_ble_eq_true rfl) (xRok (d' := d - 1) (by omega) (by decide)) ⟨Nat.le_refl _, Nat.le_refl _⟩ d_X_image_12 rfl ?_
    refine X_aload_n d_X_image_15 rfl rfl ?_
    refine X_iload_n d_X_image_16 rfl rfl ?_
    refine X_callV (v := .ref (xg G (17 + 2 * j))) (rest := [.ref (xg G (18 + 2 * j))]) (c_X_headAt l G nn xYf (cpI I j) (by omega) xYok_f j (Nat.lt_of_lt_of_le (nI_more hj (by omega) c_1) (by omega))) lk_X_headAt ml_X_124 (xm_obj (y0 xYok_f)) rfl rfl (Nat.le_of_ble_eq_true rfl) (xRok (d' := d - 1) (by omega) (by decide)) ⟨Nat.le_refl _, Nat.le_refl _⟩ d_X_image_17 rfl ?_
    refine X_callVv (rest := []) (k_Head_become l G nn xYf (cpI I j) (by omega) (18 + 2 * j) (yG xYok_f (show j < 5 from Nat.lt_of_lt_of_le (nI_more hj (by omega) c_1) (by omega))) (17 + 2 * j) (yH xYok_f (show j < 5 from Nat.lt_of_lt_of_le (nI_more hj (by omega) c_1) (by omega))) (by omega) (I (18 + 2 * j)) (I (17 + 2 * j)) (cpI_n I j) (cpI_o I j (by omega)) (hR _ (Nat.lt_of_lt_of_le (nI_more hj (by omega) c_1) (by omega))) (hR2 _ (Nat.lt_of_lt_of_le (nI_more hj (by omega) c_1) (by omega))).2) lk_Head_become ml_X_235 (xm_obj (yG xYok_f (show j < 5 from Nat.lt_of_lt_of_le (nI_more hj (by omega) c_1) (by omega)))) rfl rfl (Nat.le_of_ble_eq_true rfl) (xRok (d' := d - 1) (by omega) (by decide)) ⟨Nat.le_refl _, Nat.le_refl _⟩ d_X_image_20 rfl ?_
    refine X_iinc d_X_image_23 rfl (v := (nI j) + 1) rfl (by decide) [1, 0] (L' := [(0, .ref (xg G 0)), (1, .int ((nI j) + 1))]) rfl ?_
    refine X_goto (tgt := 2) d_X_image_26 (by decide) ?_
    have hlt := nI_more hj (by omega) c_1
    rw [nI_1, cpI_s]
    exact ih hlt
theorem c_X_image (l : Launch) (G : xG) {d : Nat} (nn : Nat) (I : xI) (hd : 5 ≤ d) (hc tc ln : Nat) (S : Nat → xSay) (hK : cOK I hc tc ln S) (hR2 : ∀ i, i < 5 → hOK (I (18 + 2 * i))) : XM l G d y_X_image b_X_image 2 (some .int) 0 0 xK0 [.ref (xg G 0)] nn (xm G xYf I) (some (.int (nI hc))) nn (xm G xYf (mImage I hc ln)) := by
  obtain ⟨⟨h10, h5⟩, ⟨h11, h6⟩, ⟨h12, hl⟩, hTs, hR⟩ := id hK
  refine XM.of (by decide) (Nat.le_of_ble_eq_true rfl) (L := [(0, .ref (xg G 0))]) rfl ?_
  refine X_iconst (v := 0) d_X_image_0 rfl ?_
  refine X_istore_n d_X_image_1 rfl (by decide) [1, 0] (L' := [(0, .ref (xg G 0)), (1, .int 0)]) rfl ?_
  have hq := xloop (T := hc) (fun j hj ih => w_X_image (d := d) l G nn I (by omega) hc tc ln S hK hR2 j hj ih) 0 (Nat.zero_le _)
  unfold Q_X_image at hq
  rw [cpI_0] at hq
  exact hq
def Q_X_back (l : Launch) (G : xG) (d nn : Nat) (I : xI) (hc ln : Nat) (ic il : Nat) (j : Nat) : Prop := XW l G (xR d 0 0) y_X_back b_X_back 2 (some .int) xK0 (xZ G nn (xm G xYf (mBack I ic il)) (some (.int (nI ic))) 0 0) nn (xm G xYf (cpB I j)) 0 0 12 [(0, .ref (xg G 0)), (1, .int (nI j))] []
theorem w_X_back (l : Launch) (G : xG) {d : Nat} (nn : Nat) (I : xI) (hd : 4 ≤ d) (hc tc ln : Nat) (S : Nat → xSay) (hK : cOK I hc tc ln S) (hR2 : ∀ i, i < 5 → hOK (I (18 + 2 * i))) (ic il : Nat) (hic5 : ic ≤ 5) (h13 : I 0 13 = nI ic) (h14 : I 0 14 = nI il) (j : Nat) (hj : j ≤ ic) (ih : j < ic → Q_X_back l G d nn I hc ln ic il (j + 1)) : Q_X_back l G d nn I hc ln ic il j := by
  obtain ⟨⟨h10, h5⟩, ⟨h11, h6⟩, ⟨h12, hl⟩, hTs, hR⟩ := id hK
  unfold Q_X_back
  refine X_iload_n d_X_back_12 rfl rfl ?_
  refine X_aload_n d_X_back_13 rfl rfl ?_
  refine X_getI (v := nI ic) fg_X_69 (y0 xYok_f) rfl ((congrFun (cpB_o I j (by omega)) _).trans h13) d_X_back_14 ?_
  refine X_icmp_ge (tgt := 39) d_X_back_17 (by decide) (fun c_1 => ?_) (fun c_1 => ?_)
  ·
    refine X_aload_n d_X_back_39 rfl rfl ?_
    refine X_aload_n d_X_back_40 rfl rfl ?_
    refine X_getI (v := nI ic) fg_X_69 (y0 xYok_f) rfl ((congrFun (cpB_o I j (by omega)) _).trans h13) d_X_back_41 ?_
    refine X_putI fp_X_59 (y0 xYok_f) rfl d_X_back_44 ?_
    refine X_aload_n d_X_back_47 rfl rfl ?_
    refine X_aload_n d_X_back_48 rfl rfl ?_
    refine X_getI (v := nI il) fg_X_72 (y0 xYok_f) rfl ((xw_k _ _ _ (by decide)).trans ((congrFun (cpB_o I j (by omega)) _).trans h14)) d_X_back_49 ?_
    refine X_putI fp_X_66 (y0 xYok_f) rfl d_X_back_52 ?_
    refine X_aload_n d_X_back_55 rfl rfl ?_
    refine X_getI (v := nI ic) fg_X_59 (y0 xYok_f) rfl ((xw_k _ _ _ (by decide)).trans (xw_s _ _ _ _)) d_X_back_56 ?_
    have hdone := nI_done hj (by omega) c_1
    subst hdone
    exact X_iret rfl rfl (xle_rf _) d_X_back_59
  ·
    refine X_aload_n d_X_back_20 rfl rfl ?_
    refine X_iload_n d_X_back_21 rfl rfl ?_
    refine X_callV (v := .ref (xg G (17 + 2 * j))) (rest := []) (c_X_headAt l G nn xYf (cpB I j) (by omega) xYok_f j (Nat.lt_of_lt_of_le (nI_more hj (by omega) c_1) (by omega))) lk_X_headAt ml_X_124 (xm_obj (y0 xYok_f)) rfl rfl (Nat.le_of_ble_eq_true rfl) (xRok (d' := d - 1) (by omega) (by decide)) ⟨Nat.le_refl _, Nat.le_refl _⟩ d_X_back_22 rfl ?_
    refine X_aload_n d_X_back_25 rfl rfl ?_
    refine X_iload_n d_X_back_26 rfl rfl ?_
    refine X_callV (v := .ref (xg G (18 + 2 * j))) (rest := [.ref (xg G (17 + 2 * j))]) (c_X_imageHeadAt l G nn xYf (cpB I j) (by omega) xYok_f j (Nat.lt_of_lt_of_le (nI_more hj (by omega) c_1) (by omega))) lk_X_imageHeadAt ml_X_292 (xm_obj (y0 xYok_f)) rfl rfl (Nat.le_of_ble_eq_true rfl) (xRok (d' := d - 1) (by omega) (by decide)) ⟨Nat.le_refl _, Nat.le_refl _⟩ d_X_back_27 rfl ?_
    refine X_callVv (rest := []) (k_Head_become l G nn xYf (cpB I j) (by omega) (17 + 2 * j) (yH xYok_f (show j < 5 from Nat.lt_of_lt_of_le (nI_more hj (by omega) c_1) (by omega))) (18 + 2 * j) (yG xYok_f (show j < 5 from Nat.lt_of_lt_of_le (nI_more hj (by omega) c_1) (by omega))) (Ne.symm (by omega)) (I (17 + 2 * j)) (I (18 + 2 * j)) (cpB_n I j) (cpB_o I j (by omega)) (hR2 _ (Nat.lt_of_lt_of_le (nI_more hj (by omega) c_1) (by omega))) (hR _ (Nat.lt_of_lt_of_le (nI_more hj (by omega) c_1) (by omega))).2) lk_Head_become ml_X_235 (xm_obj (yH xYok_f (show j < 5 from Nat.lt_of_lt_of_le (nI_more hj (by omega) c_1) (by omega)))) rfl rfl (Nat.le_of_ble_eq_true rfl) (xRok (d' := d - 1) (by omega) (by decide)) ⟨Nat.le_refl _, Nat.le_refl _⟩ d_X_back_30 rfl ?_
    refine X_iinc d_X_back_33 rfl (v := (nI j) + 1) rfl (by decide) [1, 0] (L' := [(0, .ref (xg G 0)), (1, .int ((nI j) + 1))]) rfl ?_
    refine X_goto (tgt := 12) d_X_back_36 (by decide) ?_
    have hlt := nI_more hj (by omega) c_1
    rw [nI_1, cpB_s]
    exact ih hlt
theorem c_X_back (l : Launch) (G : xG) {d : Nat} (nn : Nat) (I : xI) (hd : 5 ≤ d) (hc tc ln : Nat) (S : Nat → xSay) (hK : cOK I hc tc ln S) (hR2 : ∀ i, i < 5 → hOK (I (18 + 2 * i))) (ic il : Nat) (hic5 : ic ≤ 5) (h13 : I 0 13 = nI ic) (h14 : I 0 14 = nI il) : XM l G d y_X_back b_X_back 2 (some .int) 0 0 xK0 [.ref (xg G 0)] nn (xm G xYf I) (some (.int (nI ic))) nn (xm G xYf (mBack I ic il)) := by
  obtain ⟨⟨h10, h5⟩, ⟨h11, h6⟩, ⟨h12, hl⟩, hTs, hR⟩ := id hK
  refine XM.of (by decide) (Nat.le_of_ble_eq_true rfl) (L := [(0, .ref (xg G 0))]) rfl ?_
  refine X_aload_n d_X_back_0 rfl rfl ?_
  refine X_getI (v := nI ic) fg_X_69 (y0 xYok_f) rfl (h13) d_X_back_1 ?_
  refine X_if_ge (tgt := 10) d_X_back_4 (by decide) (fun _ => ?_) (fun c_1 => absurd c_1 (not_not_intro (nI_pos' (by omega))))
  refine X_iconst (v := 0) d_X_back_10 rfl ?_
  refine X_istore_n d_X_back_11 rfl (by decide) [1, 0] (L' := [(0, .ref (xg G 0)), (1, .int 0)]) rfl ?_
  have hq := xloop (T := ic) (fun j hj ih => w_X_back (d := d) l G nn I (by omega) hc tc ln S hK hR2 ic il hic5 h13 h14 j hj ih) 0 (Nat.zero_le _)
  unfold Q_X_back at hq
  rw [cpB_0] at hq
  exact hq
theorem c_X_back_no (l : Launch) (G : xG) {d : Nat} (nn : Nat) (I : xI) (hd : 5 ≤ d) (hc tc ln : Nat) (S : Nat → xSay) (hK : cOK I hc tc ln S) (hno : I 0 13 < 0) : XM l G d y_X_back b_X_back 2 (some .int) 0 0 xK0 [.ref (xg G 0)] nn (xm G xYf I) (some (.int (-3))) nn (xm G xYf (I)) := by
  obtain ⟨⟨h10, h5⟩, ⟨h11, h6⟩, ⟨h12, hl⟩, hTs, hR⟩ := id hK
  refine XM.of (by decide) (Nat.le_of_ble_eq_true rfl) (L := [(0, .ref (xg G 0))]) rfl ?_
  refine X_aload_n d_X_back_0 rfl rfl ?_
  refine X_getI (v := I 0 13) fg_X_69 (y0 xYok_f) rfl (rfl) d_X_back_1 ?_
  refine X_if_ge (tgt := 10) d_X_back_4 (by decide) (fun c_1 => absurd c_1 (Int32.not_le.mpr hno)) (fun _ => ?_)
  refine X_bipush (v := -3) d_X_back_7 rfl ?_
  exact X_iret rfl rfl (xle_rf _) d_X_back_9
