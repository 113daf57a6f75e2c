theorem tSh_t {i : Nat} (hi : i < 6) : tSh (27 + 4 * i) := ⟨(fT hi).1, (fT hi).2.1, (fT hi).2.2.1, by omega⟩
def aText (I : xI) (tc : Nat) : Int32 := if 6 ≤ tc then -4 else if iRead (27 + 4 * tc) I 11 8 < 0 then nI tc else -100 - iRead (27 + 4 * tc) I 11 8
def mText (I : xI) (tc : Nat) : xI := if 6 ≤ tc then I else if iRead (27 + 4 * tc) I 11 8 < 0 then xw (xw (iRead (27 + 4 * tc) I) 11 2 0) 0 11 (nI tc + 1) else xw (iRead (27 + 4 * tc) I) 11 2 0
theorem rd_tc {I : xI} {hc tc ln : Nat} {S : Nat → xSay} (h : cOK I hc tc ln S) : xw (iRead (27 + 4 * tc) I) 11 2 0 0 11 = nI tc := by
  rw [xw_a _ _ _ _ (by decide), fr_read (27 + 4 * tc) I 0 (by decide) (by omega) (by omega) (by omega)]
  exact h.2.1.1
theorem c_X_text (l : Launch) (G : xG) {d : Nat} (nn : Nat) (I : xI) (hd : 42 ≤ d) (hc tc ln : Nat) (S : Nat → xSay) (hK : cOK I hc tc ln S) {n : Nat} (hn : n ≤ 160) (h2 : I 11 2 = nI n) : XM l G d y_X_text b_X_text 2 (some .int) 0 0 xK0 [.ref (xg G 0)] nn (xm G xYf I) (some (.int (aText I tc))) nn (xm G xYf (mText I tc)) := by
  obtain ⟨⟨h10, h5⟩, ⟨h11, h6⟩, ⟨h12, hl⟩, hTs, hR⟩ := id hK
  refine XM.of (by decide) (Nat.le_of_ble_eq_true rfl) (L := [(0, .ref (xg G 0))]) rfl ?_
  refine X_aload_n d_X_text_0 rfl rfl ?_
  refine X_getI (v := nI tc) fg_X_63 (y0 xYok_f) rfl (h11) d_X_text_1 ?_
  refine X_bipush (v := 6) d_X_text_4 rfl ?_
  refine X_icmp_lt (tgt := 12) d_X_text_6 (by decide) (fun c_1 => ?_) (fun c_1 => ?_)
  ·
    have hlt : tc < 6 := (nI_ltI (b := 6) (by omega) (by decide)).mp c_1
    refine X_aload_n d_X_text_12 rfl rfl ?_
    refine X_getR (r := 11) fg_X_44 (y0 xYok_f) rfl d_X_text_13 ?_
    refine X_aload_n d_X_text_16 rfl rfl ?_
    refine X_aload_n d_X_text_17 rfl rfl ?_
    refine X_getI (v := nI tc) fg_X_63 (y0 xYok_f) rfl (h11) d_X_text_18 ?_
    refine X_callV (v := .ref (xg G (27 + 4 * tc))) (rest := [.ref (xg G 11)]) (c_X_textAt l G nn xYf I (by omega) xYok_f tc (by omega)) lk_X_textAt ml_X_91 (xm_obj (y0 xYok_f)) rfl rfl (Nat.le_of_ble_eq_true rfl) (xRok (d' := d - 1) (by omega) (by decide)) ⟨Nat.le_refl _, Nat.le_refl _⟩ d_X_text_21 rfl ?_
    refine X_callV (v := .int (iRead (27 + 4 * tc) I 11 8)) (rest := []) (k_Reader_read l G nn (by omega) (tSh_t hlt) I hn h2) lk_Reader_read ml_X_95 (xm_obj (show xYf 11 = some (sReader 12 13) from rfl)) rfl rfl (Nat.le_of_ble_eq_true rfl) (xRok (d' := d - 1) (by omega) (by decide)) ⟨Nat.le_refl _, Nat.le_refl _⟩ d_X_text_24 rfl ?_
    refine X_istore_n d_X_text_27 rfl (by decide) [1, 0] (L' := [(0, .ref (xg G 0)), (1, .int (iRead (27 + 4 * tc) I 11 8))]) rfl ?_
    refine X_aload_n d_X_text_28 rfl rfl ?_
    refine X_getR (r := 11) fg_X_44 (y0 xYok_f) rfl d_X_text_29 ?_
    refine X_callVv (rest := []) (k_Reader_empty l G nn (by omega) (iRead (27 + 4 * tc) I)) lk_Reader_empty ml_X_99 (xm_obj (show xYf 11 = some (sReader 12 13) from rfl)) rfl rfl (Nat.le_of_ble_eq_true rfl) (xRok (d' := d - 1) (by omega) (by decide)) ⟨Nat.le_refl _, Nat.le_refl _⟩ d_X_text_32 rfl ?_
    refine X_iload_n d_X_text_35 rfl rfl ?_
    refine X_if_lt (tgt := 44) d_X_text_36 (by decide) (fun c_2 => ?_) (fun c_2 => ?_)
    ·
      refine X_aload_n d_X_text_44 rfl rfl ?_
      refine X_dup d_X_text_45 rfl ?_
      refine X_getI (v := nI tc) fg_X_63 (y0 xYok_f) rfl (rd_tc hK) d_X_text_46 ?_
      refine X_iconst (v := 1) d_X_text_49 rfl ?_
      refine X_iadd d_X_text_50 ?_
      refine X_putI fp_X_63 (y0 xYok_f) rfl d_X_text_51 ?_
      refine X_aload_n d_X_text_54 rfl rfl ?_
      refine X_getI (v := (nI tc) + 1) fg_X_63 (y0 xYok_f) rfl (xw_s _ _ _ _) d_X_text_55 ?_
      refine X_iconst (v := 1) d_X_text_58 rfl ?_
      refine X_isub d_X_text_59 ?_
      exact X_iret rfl (congrArg (fun q => some (Value.int q)) (by simp [aText, nI_pred, nI_1, Nat.not_le.mpr hlt, c_2, Int32.not_le.mpr c_2])) (xle_of (congrArg (xm G xYf) (by simp [mText, Nat.not_le.mpr hlt, c_2, Int32.not_le.mpr c_2]))) d_X_text_60
    ·
      refine X_bipush (v := -100) d_X_text_39 rfl ?_
      refine X_iload_n d_X_text_41 rfl rfl ?_
      refine X_isub d_X_text_42 ?_
      exact X_iret rfl (congrArg (fun q => some (Value.int q)) (by simp [aText, nI_pred, nI_1, Nat.not_le.mpr hlt, c_2, Int32.not_lt.mp c_2])) (xle_of (congrArg (xm G xYf) (by simp [mText, Nat.not_le.mpr hlt, c_2, Int32.not_lt.mp c_2]))) d_X_text_43
  ·
    have hge : 6 ≤ tc := (nI_leI (a := 6) (by decide) (by omega)).mp (Int32.not_lt.mp c_1)
    refine X_bipush (v := -4) d_X_text_9 rfl ?_
    exact X_iret rfl (congrArg (fun q => some (Value.int q)) (by simp [aText, nI_pred, nI_1, hge])) (xle_of (congrArg (xm G xYf) (by simp [mText, hge]))) d_X_text_11
