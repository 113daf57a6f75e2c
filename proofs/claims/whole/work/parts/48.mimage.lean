def cp3 (k : Nat) (f g : Nat → Int32) : Nat → Int32 := fun j => if j < k then f j else g j
theorem cp3_0 (f g : Nat → Int32) : cp3 0 f g = g := by funext j; simp [cp3]
theorem cp3_s (k : Nat) (f g : Nat → Int32) : xup (cp3 k f g) k (f k) = cp3 (k + 1) f g := by
  funext j
  by_cases h : j = k
  · subst h; rw [xup_s, cp3, if_pos (by omega)]
  · rw [xup_n _ _ h, cp3, cp3]
    by_cases h2 : j < k
    · rw [if_pos h2, if_pos (by omega)]
    · rw [if_neg h2, if_neg (by omega)]
theorem mselfA {I J : xI} {a : Nat} (h : J a = I a) : xup J a (I a) = J := by rw [← h, xup_self]
def Q_Model_image (l : Launch) (G : xG) (d nn : Nat) (I : xI) (hc ln : Nat) (k : Nat) : Prop := XW l G (xR d 0 0) y_Model_image b_Model_image 2 (some .int) xK0 (xZ G nn (xm G xYf (xup (xw (xw (xw I 59 10 1) 59 11 (nI hc)) 59 12 (nI ln)) 66 (cp3 30 (I 62) (I 66)))) (some (.int (nI hc))) 0 0) nn (xm G xYf (xup (xw (xw (xw I 59 10 1) 59 11 (nI hc)) 59 12 (nI ln)) 66 (cp3 k (I 62) (I 66)))) 0 0 23 [(0, .ref (xg G 59)), (1, .int (nI k))] []
theorem w_Model_image (l : Launch) (G : xG) {d : Nat} (nn : Nat) (I : xI) (hc ln : Nat) (hv : I 59 0 = nI hc) (k : Nat) (hk : k ≤ 30) (ih : k < 30 → Q_Model_image l G d nn I hc ln (k + 1)) : Q_Model_image l G d nn I hc ln k := by
  unfold Q_Model_image
  refine X_iload_n d_Model_image_23 rfl rfl ?_
  refine X_bipush (v := 30) d_Model_image_24 rfl ?_
  refine X_icmp_ge (tgt := 47) d_Model_image_26 (by decide) (fun c_1 => ?_) (fun c_1 => ?_)
  ·
    refine X_aload_n d_Model_image_47 rfl rfl ?_
    refine X_getI (v := nI hc) fg_Model_63 (show xYf 59 = some sModel from rfl) rfl ((congrFun (xup_n _ _ (by decide)) _).trans ((xw_k _ _ _ (by decide)).trans ((xw_k _ _ _ (by decide)).trans ((xw_k _ _ _ (by decide)).trans hv)))) d_Model_image_48 ?_
    have hz : k = 30 := nI_done hk (by decide) c_1
    subst hz
    exact X_iret rfl rfl (xle_rf _) d_Model_image_51
  ·
    have hlt : k < 30 := nI_more hk (by decide) c_1
    refine X_aload_n d_Model_image_29 rfl rfl ?_
    refine X_getR (r := 66) fg_Model_28 (show xYf 59 = some sModel from rfl) rfl d_Model_image_30 ?_
    refine X_iload_n d_Model_image_33 rfl rfl ?_
    refine X_aload_n d_Model_image_34 rfl rfl ?_
    refine X_getR (r := 62) fg_Model_16 (show xYf 59 = some sModel from rfl) rfl d_Model_image_35 ?_
    refine X_iload_n d_Model_image_38 rfl rfl ?_
    refine X_aldI (v := I 62 k) (show xYf 62 = some (sInts 30) from rfl) (ixin (show nI k = nI k from rfl) (show k < 30 by omega) (by decide)) ((ixv (show nI k = nI k from rfl) (show k < 2 ^ 31 by omega) ((congrFun (xup_n _ _ (by decide)) _).trans (congrFun ((xw_row _ _ _ (by decide)).trans ((xw_row _ _ _ (by decide)).trans ((xw_row _ _ _ (by decide))))) _)))) d_Model_image_39 ?_
    refine X_astI (show xYf 66 = some (sInts 30) from rfl) (ixin (show nI k = nI k from rfl) (show k < 30 by omega) (by decide)) d_Model_image_40 ?_
    rw [ixcl (x := nI k) (show nI k = nI k from rfl) (show k < 2 ^ 31 by omega)]
    rw [xw_rec]
    refine X_iinc d_Model_image_41 rfl (v := (nI k) + 1) rfl (by decide) [1, 0] (L' := [(0, .ref (xg G 59)), (1, .int ((nI k) + 1))]) rfl ?_
    refine X_goto (tgt := 23) d_Model_image_44 (by decide) ?_
    have key := ih hlt
    unfold Q_Model_image at key
    rw [cp3_s, nI_1 k]
    exact key
def mImageM (I : xI) (hc ln : Nat) : xI := xup (xw (xw (xw I 59 10 1) 59 11 (nI hc)) 59 12 (nI ln)) 66 (cp3 30 (I 62) (I 66))
theorem c_Model_image (l : Launch) (G : xG) {d : Nat} (nn : Nat) (hd : 1 ≤ d) (I : xI) (hc tc ln : Nat) (SS : Nat → xSay) (hK0 : mOK I hc tc ln SS) : XM l G d y_Model_image b_Model_image 2 (some .int) 0 0 xK0 [.ref (xg G 59)] nn (xm G xYf I) (some (.int (nI hc))) nn (xm G xYf (mImageM I hc ln)) := by
  obtain ⟨⟨h0, h5⟩, ⟨h8, h6⟩, ⟨h9, hl⟩, hTs, hR⟩ := id hK0
  have hK : mK I ln (SS ln) := ⟨hTs ln hl, h9, by omega⟩
  generalize hSS : SS ln = S at hK ⊢
  refine XM.of (by decide) (Nat.le_of_ble_eq_true rfl) (L := [(0, .ref (xg G 59))]) rfl ?_
  refine X_aload_n d_Model_image_0 rfl rfl ?_
  refine X_iconst (v := 1) d_Model_image_1 rfl ?_
  refine X_putZ fp_Model_261 (show xYf 59 = some sModel from rfl) rfl (by decide) d_Model_image_2 ?_
  refine X_aload_n d_Model_image_5 rfl rfl ?_
  refine X_aload_n d_Model_image_6 rfl rfl ?_
  refine X_getI (v := nI hc) fg_Model_63 (show xYf 59 = some sModel from rfl) rfl ((xw_k _ _ _ (by decide)).trans (h0)) d_Model_image_7 ?_
  refine X_putI fp_Model_264 (show xYf 59 = some sModel from rfl) rfl d_Model_image_10 ?_
  refine X_aload_n d_Model_image_13 rfl rfl ?_
  refine X_aload_n d_Model_image_14 rfl rfl ?_
  refine X_getI (v := nI ln) fg_Model_73 (show xYf 59 = some sModel from rfl) rfl ((xw_k _ _ _ (by decide)).trans ((xw_k _ _ _ (by decide)).trans (h9))) d_Model_image_15 ?_
  refine X_putI fp_Model_267 (show xYf 59 = some sModel from rfl) rfl d_Model_image_18 ?_
  refine X_iconst (v := 0) d_Model_image_21 rfl ?_
  refine X_istore_n d_Model_image_22 rfl (by decide) [1, 0] (L' := [(0, .ref (xg G 59)), (1, .int 0)]) rfl ?_
  have hx := xloop (T := 30) (fun k hk ih => w_Model_image (d := d) l G nn I hc ln h0 k hk ih) 0 (Nat.zero_le _)
  unfold Q_Model_image at hx
  rw [cp3_0, mselfA ((xw_row _ _ _ (by decide)).trans ((xw_row _ _ _ (by decide)).trans ((xw_row _ _ _ (by decide)))))] at hx
  exact hx
def Q_Model_back (l : Launch) (G : xG) (d nn : Nat) (I : xI) (ic il : Nat) (k : Nat) : Prop := XW l G (xR d 0 0) y_Model_back b_Model_back 2 (some .int) xK0 (xZ G nn (xm G xYf (xup (xw (xw I 59 0 (nI ic)) 59 9 (nI il)) 62 (cp3 30 (I 66) (I 62)))) (some (.int (nI ic))) 0 0) nn (xm G xYf (xup (xw (xw I 59 0 (nI ic)) 59 9 (nI il)) 62 (cp3 k (I 66) (I 62)))) 0 0 28 [(0, .ref (xg G 59)), (1, .int (nI k))] []
theorem w_Model_back (l : Launch) (G : xG) {d : Nat} (nn : Nat) (I : xI) (ic il : Nat) (k : Nat) (hk : k ≤ 30) (ih : k < 30 → Q_Model_back l G d nn I ic il (k + 1)) : Q_Model_back l G d nn I ic il k := by
  unfold Q_Model_back
  refine X_iload_n d_Model_back_28 rfl rfl ?_
  refine X_bipush (v := 30) d_Model_back_29 rfl ?_
  refine X_icmp_ge (tgt := 52) d_Model_back_31 (by decide) (fun c_1 => ?_) (fun c_1 => ?_)
  ·
    refine X_aload_n d_Model_back_52 rfl rfl ?_
    refine X_getI (v := nI ic) fg_Model_63 (show xYf 59 = some sModel from rfl) rfl ((congrFun (xup_n _ _ (by decide)) _).trans ((xw_k _ _ _ (by decide)).trans (xw_s _ _ _ _))) d_Model_back_53 ?_
    have hz : k = 30 := nI_done hk (by decide) c_1
    subst hz
    exact X_iret rfl rfl (xle_rf _) d_Model_back_56
  ·
    have hlt : k < 30 := nI_more hk (by decide) c_1
    refine X_aload_n d_Model_back_34 rfl rfl ?_
    refine X_getR (r := 62) fg_Model_16 (show xYf 59 = some sModel from rfl) rfl d_Model_back_35 ?_
    refine X_iload_n d_Model_back_38 rfl rfl ?_
    refine X_aload_n d_Model_back_39 rfl rfl ?_
    refine X_getR (r := 66) fg_Model_28 (show xYf 59 = some sModel from rfl) rfl d_Model_back_40 ?_
    refine X_iload_n d_Model_back_43 rfl rfl ?_
    refine X_aldI (v := I 66 k) (show xYf 66 = some (sInts 30) from rfl) (ixin (show nI k = nI k from rfl) (show k < 30 by omega) (by decide)) ((ixv (show nI k = nI k from rfl) (show k < 2 ^ 31 by omega) ((congrFun (xup_n _ _ (by decide)) _).trans (congrFun ((xw_row _ _ _ (by decide)).trans ((xw_row _ _ _ (by decide)))) _)))) d_Model_back_44 ?_
    refine X_astI (show xYf 62 = some (sInts 30) from rfl) (ixin (show nI k = nI k from rfl) (show k < 30 by omega) (by decide)) d_Model_back_45 ?_
    rw [ixcl (x := nI k) (show nI k = nI k from rfl) (show k < 2 ^ 31 by omega)]
    rw [xw_rec]
    refine X_iinc d_Model_back_46 rfl (v := (nI k) + 1) rfl (by decide) [1, 0] (L' := [(0, .ref (xg G 59)), (1, .int ((nI k) + 1))]) rfl ?_
    refine X_goto (tgt := 28) d_Model_back_49 (by decide) ?_
    have key := ih hlt
    unfold Q_Model_back at key
    rw [cp3_s, nI_1 k]
    exact key
def mBackM (I : xI) (ic il : Nat) : xI := xup (xw (xw I 59 0 (nI ic)) 59 9 (nI il)) 62 (cp3 30 (I 66) (I 62))
theorem c_Model_back (l : Launch) (G : xG) {d : Nat} (nn : Nat) (hd : 1 ≤ d) (I : xI) (hc tc ln : Nat) (SS : Nat → xSay) (hK0 : mOK I hc tc ln SS) (ic il : Nat) (h10 : I 59 10 = 1) (h11 : I 59 11 = nI ic) (h12 : I 59 12 = nI il) : XM l G d y_Model_back b_Model_back 2 (some .int) 0 0 xK0 [.ref (xg G 59)] nn (xm G xYf I) (some (.int (nI ic))) nn (xm G xYf (mBackM I ic il)) := by
  obtain ⟨⟨h0, h5⟩, ⟨h8, h6⟩, ⟨h9, hl⟩, hTs, hR⟩ := id hK0
  have hK : mK I ln (SS ln) := ⟨hTs ln hl, h9, by omega⟩
  generalize hSS : SS ln = S at hK ⊢
  refine XM.of (by decide) (Nat.le_of_ble_eq_true rfl) (L := [(0, .ref (xg G 59))]) rfl ?_
  refine X_aload_n d_Model_back_0 rfl rfl ?_
  refine X_getI (v := 1) fg_Model_261 (show xYf 59 = some sModel from rfl) rfl (h10) d_Model_back_1 ?_
  refine X_if_ne (tgt := 10) d_Model_back_4 (by decide) (fun _ => ?_) (fun c_1 => absurd c_1 (by decide))
  refine X_aload_n d_Model_back_10 rfl rfl ?_
  refine X_aload_n d_Model_back_11 rfl rfl ?_
  refine X_getI (v := nI ic) fg_Model_264 (show xYf 59 = some sModel from rfl) rfl (h11) d_Model_back_12 ?_
  refine X_putI fp_Model_63 (show xYf 59 = some sModel from rfl) rfl d_Model_back_15 ?_
  refine X_aload_n d_Model_back_18 rfl rfl ?_
  refine X_aload_n d_Model_back_19 rfl rfl ?_
  refine X_getI (v := nI il) fg_Model_267 (show xYf 59 = some sModel from rfl) rfl ((xw_k _ _ _ (by decide)).trans (h12)) d_Model_back_20 ?_
  refine X_putI fp_Model_73 (show xYf 59 = some sModel from rfl) rfl d_Model_back_23 ?_
  refine X_iconst (v := 0) d_Model_back_26 rfl ?_
  refine X_istore_n d_Model_back_27 rfl (by decide) [1, 0] (L' := [(0, .ref (xg G 59)), (1, .int 0)]) rfl ?_
  have hx := xloop (T := 30) (fun k hk ih => w_Model_back (d := d) l G nn I ic il  k hk ih) 0 (Nat.zero_le _)
  unfold Q_Model_back at hx
  rw [cp3_0, mselfA ((xw_row _ _ _ (by decide)).trans ((xw_row _ _ _ (by decide))))] at hx
  exact hx
theorem c_Model_back_no (l : Launch) (G : xG) {d : Nat} (nn : Nat) (hd : 1 ≤ d) (I : xI) (hc tc ln : Nat) (SS : Nat → xSay) (hK0 : mOK I hc tc ln SS) (h10 : I 59 10 = 0) : XM l G d y_Model_back b_Model_back 2 (some .int) 0 0 xK0 [.ref (xg G 59)] nn (xm G xYf I) (some (.int (-3))) nn (xm G xYf (I)) := by
  obtain ⟨⟨h0, h5⟩, ⟨h8, h6⟩, ⟨h9, hl⟩, hTs, hR⟩ := id hK0
  have hK : mK I ln (SS ln) := ⟨hTs ln hl, h9, by omega⟩
  generalize hSS : SS ln = S at hK ⊢
  refine XM.of (by decide) (Nat.le_of_ble_eq_true rfl) (L := [(0, .ref (xg G 59))]) rfl ?_
  refine X_aload_n d_Model_back_0 rfl rfl ?_
  refine X_getI (v := 0) fg_Model_261 (show xYf 59 = some sModel from rfl) rfl (h10) d_Model_back_1 ?_
  refine X_if_ne (tgt := 10) d_Model_back_4 (by decide) (fun c_1 => absurd c_1 (by decide)) (fun _ => ?_)
  refine X_bipush (v := -3) d_Model_back_7 rfl ?_
  exact X_iret rfl rfl (xle_rf _) d_Model_back_9
