theorem c_bt_a (l : Launch) (G : xG) {d : Nat} (nn : Nat) (hd : 3 ≤ d) (I : xI) (tc : Nat) (h8 : I 59 8 = nI tc) (htc : tc < 6) (a b t v : Int32) (H : Nat → Int32) (K : List Int32) (o : Int32) (cs : List Int32) (s : Int32) (K1 : List Int32) (o1 : Int32) (cs1 : List Int32) (hH : tSt H K) (hl : K.length + cs.length < 200) (hl1 : K1.length + cs1.length < 200) (hr : ¬ zRank s = 4) (hU : zUn (zRank s) K o cs = (K1, o1, cs1)) : XM l G d y_Model_between b_Model_between 2 (some .boolean) 0 0 xK0 [.ref (xg G 59), .int s] nn (xm G (xup xYf 72 (some (sInts 200))) (xup (xup (xup I 64 (zC (200 * tc) cs (I 64))) 72 H) 59 (zS (I 59) a b t v (nI K.length) o (nI cs.length)))) (some (.int 1)) nn (xm G (xup xYf 72 (some (sInts 200))) (xup (xup (xup I 64 (zC (200 * tc) cs1 (I 64))) 72 (xup H K1.length s)) 59 (zS (I 59) a b t v (nI (s :: K1).length) o1 (nI cs1.length)))) := by
  refine XM.of (by decide) (Nat.le_of_ble_eq_true rfl) (L := [(0, .ref (xg G 59)), (1, .int s)]) rfl ?_
  refine X_aload_n d_Model_between_0 rfl rfl ?_
  refine X_iload_n d_Model_between_1 rfl rfl ?_
  refine X_callS (v := .int (zRank s)) (rest := [.ref (xg G 59)]) (c_Model_rank l G nn _ (by omega) s) lk_Model_rank ml_Model_102 rfl (Nat.le_of_ble_eq_true rfl) (xRok (d' := d - 1) (by omega) (by decide)) ⟨Nat.le_refl _, Nat.le_refl _⟩ d_Model_between_2 rfl ?_
  refine X_iconst (v := 4) d_Model_between_5 rfl ?_
  refine X_icmp_ne (tgt := 13) d_Model_between_6 (by decide) (fun _ => ?_) (fun c_1 => absurd c_1 hr)
  refine X_iload_n d_Model_between_13 rfl rfl ?_
  refine X_callS (v := .int (zRank s)) (rest := [.ref (xg G 59)]) (c_Model_rank l G nn _ (by omega) s) lk_Model_rank ml_Model_102 rfl (Nat.le_of_ble_eq_true rfl) (xRok (d' := d - 1) (by omega) (by decide)) ⟨Nat.le_refl _, Nat.le_refl _⟩ d_Model_between_14 rfl ?_
  refine X_callVv (rest := []) (by have q0 := c_Model_unwinds l G nn (d := d - 1) (by omega) I tc h8 htc a b t v H K o cs (zRank s) hH (by omega); rw [hU] at q0; exact q0) lk_Model_unwinds ml_Model_116 (xm_obj (show (xup xYf 72 (some (sInts 200))) 59 = some sModel from rfl)) rfl rfl (Nat.le_of_ble_eq_true rfl) (xRok (d' := d - 1) (by omega) (by decide)) ⟨Nat.le_refl _, Nat.le_refl _⟩ d_Model_between_17 rfl ?_
  refine X_iload_n d_Model_between_20 rfl rfl ?_
  refine X_callS (v := .int (zRank s)) (rest := []) (c_Model_rank l G nn _ (by omega) s) lk_Model_rank ml_Model_102 rfl (Nat.le_of_ble_eq_true rfl) (xRok (d' := d - 1) (by omega) (by decide)) ⟨Nat.le_refl _, Nat.le_refl _⟩ d_Model_between_21 rfl ?_
  refine X_iconst (v := 4) d_Model_between_24 rfl ?_
  refine X_icmp_ne (tgt := 55) d_Model_between_25 (by decide) (fun _ => ?_) (fun c_2 => absurd c_2 hr)
  refine X_aload_n d_Model_between_55 rfl rfl ?_
  refine X_iload_n d_Model_between_56 rfl rfl ?_
  refine X_callVv (rest := []) (c_Model_holds l G nn (by omega) I tc h8 htc a b t v H K1 o1 cs1 s (by omega)) lk_Model_holds ml_Model_113 (xm_obj (show (xup xYf 72 (some (sInts 200))) 59 = some sModel from rfl)) rfl rfl (Nat.le_of_ble_eq_true rfl) (xRok (d' := d - 1) (by omega) (by decide)) ⟨Nat.le_refl _, Nat.le_refl _⟩ d_Model_between_57 rfl ?_
  refine X_iconst (v := 1) d_Model_between_60 rfl ?_
  exact X_zret rfl rfl rfl (xle_rf _) d_Model_between_61
theorem c_bt_b (l : Launch) (G : xG) {d : Nat} (nn : Nat) (hd : 3 ≤ d) (I : xI) (tc : Nat) (h8 : I 59 8 = nI tc) (htc : tc < 6) (a b t v : Int32) (H : Nat → Int32) (K : List Int32) (o : Int32) (cs : List Int32) (s : Int32) (K1 : List Int32) (o1 : Int32) (cs1 : List Int32) (hH : tSt H K) (hl : K.length + cs.length < 200) (hl1 : ([] : List Int32).length + cs1.length < 200) (hr : zRank s = 4) (hU : zUn 5 K o cs = ([], o1, cs1)) : XM l G d y_Model_between b_Model_between 2 (some .boolean) 0 0 xK0 [.ref (xg G 59), .int s] nn (xm G (xup xYf 72 (some (sInts 200))) (xup (xup (xup I 64 (zC (200 * tc) cs (I 64))) 72 H) 59 (zS (I 59) a b t v (nI K.length) o (nI cs.length)))) (some (.int 1)) nn (xm G (xup xYf 72 (some (sInts 200))) (xup (xup (xup I 64 (zC (200 * tc) cs1 (I 64))) 72 (xup H ([] : List Int32).length s)) 59 (zS (I 59) a b t v (nI (s :: ([] : List Int32)).length) o1 (nI cs1.length)))) := by
  refine XM.of (by decide) (Nat.le_of_ble_eq_true rfl) (L := [(0, .ref (xg G 59)), (1, .int s)]) rfl ?_
  refine X_aload_n d_Model_between_0 rfl rfl ?_
  refine X_iload_n d_Model_between_1 rfl rfl ?_
  refine X_callS (v := .int (zRank s)) (rest := [.ref (xg G 59)]) (c_Model_rank l G nn _ (by omega) s) lk_Model_rank ml_Model_102 rfl (Nat.le_of_ble_eq_true rfl) (xRok (d' := d - 1) (by omega) (by decide)) ⟨Nat.le_refl _, Nat.le_refl _⟩ d_Model_between_2 rfl ?_
  refine X_iconst (v := 4) d_Model_between_5 rfl ?_
  refine X_icmp_ne (tgt := 13) d_Model_between_6 (by decide) (fun c_1 => absurd c_1 (fun z => z hr)) (fun _ => ?_)
  refine X_iconst (v := 5) d_Model_between_9 rfl ?_
  refine X_goto (tgt := 17) d_Model_between_10 (by decide) ?_
  refine X_callVv (rest := []) (by have q0 := c_Model_unwinds l G nn (d := d - 1) (by omega) I tc h8 htc a b t v H K o cs 5 hH (by omega); rw [hU] at q0; exact q0) lk_Model_unwinds ml_Model_116 (xm_obj (show (xup xYf 72 (some (sInts 200))) 59 = some sModel from rfl)) rfl rfl (Nat.le_of_ble_eq_true rfl) (xRok (d' := d - 1) (by omega) (by decide)) ⟨Nat.le_refl _, Nat.le_refl _⟩ d_Model_between_17 rfl ?_
  refine X_iload_n d_Model_between_20 rfl rfl ?_
  refine X_callS (v := .int (zRank s)) (rest := []) (c_Model_rank l G nn _ (by omega) s) lk_Model_rank ml_Model_102 rfl (Nat.le_of_ble_eq_true rfl) (xRok (d' := d - 1) (by omega) (by decide)) ⟨Nat.le_refl _, Nat.le_refl _⟩ d_Model_between_21 rfl ?_
  refine X_iconst (v := 4) d_Model_between_24 rfl ?_
  refine X_icmp_ne (tgt := 55) d_Model_between_25 (by decide) (fun c_2 => absurd c_2 (fun z => z hr)) (fun _ => ?_)
  refine X_aload_n d_Model_between_28 rfl rfl ?_
  refine X_getI (v := nI ([] : List Int32).length) fg_Model_99 (show (xup xYf 72 (some (sInts 200))) 59 = some sModel from rfl) rfl ((congrFun (xup_s _ _ _) _).trans (zS_24 _ _ _ _ _ _ _ _)) d_Model_between_29 ?_
  refine X_if_le (tgt := 55) d_Model_between_32 (by decide) (fun _ => ?_) (fun c_3 => absurd c_3 (not_not_intro (by decide)))
  refine X_aload_n d_Model_between_55 rfl rfl ?_
  refine X_iload_n d_Model_between_56 rfl rfl ?_
  refine X_callVv (rest := []) (c_Model_holds l G nn (by omega) I tc h8 htc a b t v H ([] : List Int32) o1 cs1 s (by omega)) lk_Model_holds ml_Model_113 (xm_obj (show (xup xYf 72 (some (sInts 200))) 59 = some sModel from rfl)) rfl rfl (Nat.le_of_ble_eq_true rfl) (xRok (d' := d - 1) (by omega) (by decide)) ⟨Nat.le_refl _, Nat.le_refl _⟩ d_Model_between_57 rfl ?_
  refine X_iconst (v := 1) d_Model_between_60 rfl ?_
  exact X_zret rfl rfl rfl (xle_rf _) d_Model_between_61
theorem c_bt_d (l : Launch) (G : xG) {d : Nat} (nn : Nat) (hd : 3 ≤ d) (I : xI) (tc : Nat) (h8 : I 59 8 = nI tc) (htc : tc < 6) (a b t v : Int32) (H : Nat → Int32) (K : List Int32) (o : Int32) (cs : List Int32) (s : Int32) (K1 : List Int32) (o1 : Int32) (cs1 : List Int32) (t1 : Int32) (hH : tSt H K) (hl : K.length + cs.length < 200) (hl1 : (t1 :: K1).length + cs1.length < 200) (hr : zRank s = 4) (hU : zUn 5 K o cs = (t1 :: K1, o1, cs1)) (hT1 : H K1.length = t1) (hr1 : ¬ zRank t1 = 4) : XM l G d y_Model_between b_Model_between 2 (some .boolean) 0 0 xK0 [.ref (xg G 59), .int s] nn (xm G (xup xYf 72 (some (sInts 200))) (xup (xup (xup I 64 (zC (200 * tc) cs (I 64))) 72 H) 59 (zS (I 59) a b t v (nI K.length) o (nI cs.length)))) (some (.int 1)) nn (xm G (xup xYf 72 (some (sInts 200))) (xup (xup (xup I 64 (zC (200 * tc) cs1 (I 64))) 72 (xup H (t1 :: K1).length s)) 59 (zS (I 59) a b t v (nI (s :: t1 :: K1).length) o1 (nI cs1.length)))) := by
  refine XM.of (by decide) (Nat.le_of_ble_eq_true rfl) (L := [(0, .ref (xg G 59)), (1, .int s)]) rfl ?_
  have hlc : (t1 :: K1).length = K1.length + 1 := rfl
  refine X_aload_n d_Model_between_0 rfl rfl ?_
  refine X_iload_n d_Model_between_1 rfl rfl ?_
  refine X_callS (v := .int (zRank s)) (rest := [.ref (xg G 59)]) (c_Model_rank l G nn _ (by omega) s) lk_Model_rank ml_Model_102 rfl (Nat.le_of_ble_eq_true rfl) (xRok (d' := d - 1) (by omega) (by decide)) ⟨Nat.le_refl _, Nat.le_refl _⟩ d_Model_between_2 rfl ?_
  refine X_iconst (v := 4) d_Model_between_5 rfl ?_
  refine X_icmp_ne (tgt := 13) d_Model_between_6 (by decide) (fun c_1 => absurd c_1 (fun z => z hr)) (fun _ => ?_)
  refine X_iconst (v := 5) d_Model_between_9 rfl ?_
  refine X_goto (tgt := 17) d_Model_between_10 (by decide) ?_
  refine X_callVv (rest := []) (by have q0 := c_Model_unwinds l G nn (d := d - 1) (by omega) I tc h8 htc a b t v H K o cs 5 hH (by omega); rw [hU] at q0; exact q0) lk_Model_unwinds ml_Model_116 (xm_obj (show (xup xYf 72 (some (sInts 200))) 59 = some sModel from rfl)) rfl rfl (Nat.le_of_ble_eq_true rfl) (xRok (d' := d - 1) (by omega) (by decide)) ⟨Nat.le_refl _, Nat.le_refl _⟩ d_Model_between_17 rfl ?_
  refine X_iload_n d_Model_between_20 rfl rfl ?_
  refine X_callS (v := .int (zRank s)) (rest := []) (c_Model_rank l G nn _ (by omega) s) lk_Model_rank ml_Model_102 rfl (Nat.le_of_ble_eq_true rfl) (xRok (d' := d - 1) (by omega) (by decide)) ⟨Nat.le_refl _, Nat.le_refl _⟩ d_Model_between_21 rfl ?_
  refine X_iconst (v := 4) d_Model_between_24 rfl ?_
  refine X_icmp_ne (tgt := 55) d_Model_between_25 (by decide) (fun c_2 => absurd c_2 (fun z => z hr)) (fun _ => ?_)
  refine X_aload_n d_Model_between_28 rfl rfl ?_
  refine X_getI (v := nI (t1 :: K1).length) fg_Model_99 (show (xup xYf 72 (some (sInts 200))) 59 = some sModel from rfl) rfl ((congrFun (xup_s _ _ _) _).trans (zS_24 _ _ _ _ _ _ _ _)) d_Model_between_29 ?_
  refine X_if_le (tgt := 55) d_Model_between_32 (by decide) (fun c_3 => absurd c_3 (fun z => absurd (nI_lt (a := 0) (b := K1.length + 1) (by omega) (by omega)) (Int32.not_lt.mpr z))) (fun _ => ?_)
  refine X_aload_n d_Model_between_35 rfl rfl ?_
  refine X_getR (r := 72) fg_Model_46 (show (xup xYf 72 (some (sInts 200))) 59 = some sModel from rfl) rfl d_Model_between_36 ?_
  refine X_aload_n d_Model_between_39 rfl rfl ?_
  refine X_getI (v := nI (t1 :: K1).length) fg_Model_99 (show (xup xYf 72 (some (sInts 200))) 59 = some sModel from rfl) rfl ((congrFun (xup_s _ _ _) _).trans (zS_24 _ _ _ _ _ _ _ _)) d_Model_between_40 ?_
  refine X_iconst (v := 1) d_Model_between_43 rfl ?_
  refine X_isub d_Model_between_44 ?_
  rw [show nI (t1 :: K1).length - 1 = nI K1.length from nI_pred _]
  refine X_aldI (v := t1) (show (xup xYf 72 (some (sInts 200))) 72 = some (sInts 200) from rfl) (ixin (show nI K1.length = nI K1.length from rfl) (show K1.length < 200 by omega) (by decide)) ((ixv (show nI K1.length = nI K1.length from rfl) (show K1.length < 2 ^ 31 by omega) (((congrFun (xup_n _ _ (by decide)) _).trans (congrFun (xup_s _ _ _) _)).trans hT1))) d_Model_between_45 ?_
  refine X_callS (v := .int (zRank t1)) (rest := []) (c_Model_rank l G nn _ (by omega) t1) lk_Model_rank ml_Model_102 rfl (Nat.le_of_ble_eq_true rfl) (xRok (d' := d - 1) (by omega) (by decide)) ⟨Nat.le_refl _, Nat.le_refl _⟩ d_Model_between_46 rfl ?_
  refine X_iconst (v := 4) d_Model_between_49 rfl ?_
  refine X_icmp_ne (tgt := 55) d_Model_between_50 (by decide) (fun _ => ?_) (fun c_4 => absurd c_4 hr1)
  refine X_aload_n d_Model_between_55 rfl rfl ?_
  refine X_iload_n d_Model_between_56 rfl rfl ?_
  refine X_callVv (rest := []) (c_Model_holds l G nn (by omega) I tc h8 htc a b t v H (t1 :: K1) o1 cs1 s (by omega)) lk_Model_holds ml_Model_113 (xm_obj (show (xup xYf 72 (some (sInts 200))) 59 = some sModel from rfl)) rfl rfl (Nat.le_of_ble_eq_true rfl) (xRok (d' := d - 1) (by omega) (by decide)) ⟨Nat.le_refl _, Nat.le_refl _⟩ d_Model_between_57 rfl ?_
  refine X_iconst (v := 1) d_Model_between_60 rfl ?_
  exact X_zret rfl rfl rfl (xle_rf _) d_Model_between_61
theorem c_bt_e (l : Launch) (G : xG) {d : Nat} (nn : Nat) (hd : 3 ≤ d) (I : xI) (tc : Nat) (h8 : I 59 8 = nI tc) (htc : tc < 6) (a b t v : Int32) (H : Nat → Int32) (K : List Int32) (o : Int32) (cs : List Int32) (s : Int32) (K1 : List Int32) (o1 : Int32) (cs1 : List Int32) (t1 : Int32) (hH : tSt H K) (hl : K.length + cs.length < 200) (hl1 : (t1 :: K1).length + cs1.length < 200) (hr : zRank s = 4) (hU : zUn 5 K o cs = (t1 :: K1, o1, cs1)) (hT1 : H K1.length = t1) (hr1 : zRank t1 = 4) : XM l G d y_Model_between b_Model_between 2 (some .boolean) 0 0 xK0 [.ref (xg G 59), .int s] nn (xm G (xup xYf 72 (some (sInts 200))) (xup (xup (xup I 64 (zC (200 * tc) cs (I 64))) 72 H) 59 (zS (I 59) a b t v (nI K.length) o (nI cs.length)))) (some (.int 0)) nn (xm G (xup xYf 72 (some (sInts 200))) (xup (xup (xup I 64 (zC (200 * tc) cs1 (I 64))) 72 H) 59 (zS (I 59) a b t v (nI (t1 :: K1).length) o1 (nI cs1.length)))) := by
  refine XM.of (by decide) (Nat.le_of_ble_eq_true rfl) (L := [(0, .ref (xg G 59)), (1, .int s)]) rfl ?_
  have hlc : (t1 :: K1).length = K1.length + 1 := rfl
  refine X_aload_n d_Model_between_0 rfl rfl ?_
  refine X_iload_n d_Model_between_1 rfl rfl ?_
  refine X_callS (v := .int (zRank s)) (rest := [.ref (xg G 59)]) (c_Model_rank l G nn _ (by omega) s) lk_Model_rank ml_Model_102 rfl (Nat.le_of_ble_eq_true rfl) (xRok (d' := d - 1) (by omega) (by decide)) ⟨Nat.le_refl _, Nat.le_refl _⟩ d_Model_between_2 rfl ?_
  refine X_iconst (v := 4) d_Model_between_5 rfl ?_
  refine X_icmp_ne (tgt := 13) d_Model_between_6 (by decide) (fun c_1 => absurd c_1 (fun z => z hr)) (fun _ => ?_)
  refine X_iconst (v := 5) d_Model_between_9 rfl ?_
  refine X_goto (tgt := 17) d_Model_between_10 (by decide) ?_
  refine X_callVv (rest := []) (by have q0 := c_Model_unwinds l G nn (d := d - 1) (by omega) I tc h8 htc a b t v H K o cs 5 hH (by omega); rw [hU] at q0; exact q0) lk_Model_unwinds ml_Model_116 (xm_obj (show (xup xYf 72 (some (sInts 200))) 59 = some sModel from rfl)) rfl rfl (Nat.le_of_ble_eq_true rfl) (xRok (d' := d - 1) (by omega) (by decide)) ⟨Nat.le_refl _, Nat.le_refl _⟩ d_Model_between_17 rfl ?_
  refine X_iload_n d_Model_between_20 rfl rfl ?_
  refine X_callS (v := .int (zRank s)) (rest := []) (c_Model_rank l G nn _ (by omega) s) lk_Model_rank ml_Model_102 rfl (Nat.le_of_ble_eq_true rfl) (xRok (d' := d - 1) (by omega) (by decide)) ⟨Nat.le_refl _, Nat.le_refl _⟩ d_Model_between_21 rfl ?_
  refine X_iconst (v := 4) d_Model_between_24 rfl ?_
  refine X_icmp_ne (tgt := 55) d_Model_between_25 (by decide) (fun c_2 => absurd c_2 (fun z => z hr)) (fun _ => ?_)
  refine X_aload_n d_Model_between_28 rfl rfl ?_
  refine X_getI (v := nI (t1 :: K1).length) fg_Model_99 (show (xup xYf 72 (some (sInts 200))) 59 = some sModel from rfl) rfl ((congrFun (xup_s _ _ _) _).trans (zS_24 _ _ _ _ _ _ _ _)) d_Model_between_29 ?_
  refine X_if_le (tgt := 55) d_Model_between_32 (by decide) (fun c_3 => absurd c_3 (fun z => absurd (nI_lt (a := 0) (b := K1.length + 1) (by omega) (by omega)) (Int32.not_lt.mpr z))) (fun _ => ?_)
  refine X_aload_n d_Model_between_35 rfl rfl ?_
  refine X_getR (r := 72) fg_Model_46 (show (xup xYf 72 (some (sInts 200))) 59 = some sModel from rfl) rfl d_Model_between_36 ?_
  refine X_aload_n d_Model_between_39 rfl rfl ?_
  refine X_getI (v := nI (t1 :: K1).length) fg_Model_99 (show (xup xYf 72 (some (sInts 200))) 59 = some sModel from rfl) rfl ((congrFun (xup_s _ _ _) _).trans (zS_24 _ _ _ _ _ _ _ _)) d_Model_between_40 ?_
  refine X_iconst (v := 1) d_Model_between_43 rfl ?_
  refine X_isub d_Model_between_44 ?_
  rw [show nI (t1 :: K1).length - 1 = nI K1.length from nI_pred _]
  refine X_aldI (v := t1) (show (xup xYf 72 (some (sInts 200))) 72 = some (sInts 200) from rfl) (ixin (show nI K1.length = nI K1.length from rfl) (show K1.length < 200 by omega) (by decide)) ((ixv (show nI K1.length = nI K1.length from rfl) (show K1.length < 2 ^ 31 by omega) (((congrFun (xup_n _ _ (by decide)) _).trans (congrFun (xup_s _ _ _) _)).trans hT1))) d_Model_between_45 ?_
  refine X_callS (v := .int (zRank t1)) (rest := []) (c_Model_rank l G nn _ (by omega) t1) lk_Model_rank ml_Model_102 rfl (Nat.le_of_ble_eq_true rfl) (xRok (d' := d - 1) (by omega) (by decide)) ⟨Nat.le_refl _, Nat.le_refl _⟩ d_Model_between_46 rfl ?_
  refine X_iconst (v := 4) d_Model_between_49 rfl ?_
  refine X_icmp_ne (tgt := 55) d_Model_between_50 (by decide) (fun c_4 => absurd c_4 (fun z => z hr1)) (fun _ => ?_)
  refine X_iconst (v := 0) d_Model_between_53 rfl ?_
  exact X_zret rfl rfl rfl (xle_rf _) d_Model_between_54
def zCd (tk va : Int32) : Int32 := if tk = 1 then 100000 + va else va
def zR0 (s : Int32) : Int32 := if zRank s = 4 then 5 else zRank s
def zStp (tk va : Int32) (K : List Int32) (o : Int32) (cs : List Int32) (w y : Bool) : (Bool × List Int32 × Int32 × List Int32) ⊕ (List Int32 × Int32 × List Int32 × Bool × Bool) :=
  if w = true then
    (if tk = 1 ∨ tk = 2 then .inr ((zUn 7 K o (cs ++ [zCd tk va])).1, (zUn 7 K o (cs ++ [zCd tk va])).2.1, (zUn 7 K o (cs ++ [zCd tk va])).2.2, false, y)
    else if tk = 6 ∧ y = true then (if o = 5 then .inl (false, K, o, cs) else .inr (13 :: K, o + 1, cs, true, y))
    else if tk = 45 then (if o = 5 then .inl (false, K, o, cs) else .inr (19 :: K, o + 1, cs, true, false))
    else if tk = 40 then (if o = 5 then .inl (false, K, o, cs) else .inr (0 :: K, o + 1, cs, true, true))
    else .inl (false, K, o, cs))
  else if tk = 59 then .inl (decide ((zUn 1 K o cs).1 = []), (zUn 1 K o cs).1, (zUn 1 K o cs).2.1, (zUn 1 K o cs).2.2)
  else if tk = 41 then
    (match zUn 1 K o cs with
    | ([], o1, cs1) => .inl (false, [], o1, cs1)
    | (_ :: K1, o1, cs1) => .inr ((zUn 7 K1 (o1 - 1) cs1).1, (zUn 7 K1 (o1 - 1) cs1).2.1, (zUn 7 K1 (o1 - 1) cs1).2.2, false, y))
  else if zSg tk = -1 then .inl (false, K, o, cs)
  else if zBad (zSg tk) (zUn (zR0 (zSg tk)) K o cs).1 = true then .inl (false, (zUn (zR0 (zSg tk)) K o cs).1, (zUn (zR0 (zSg tk)) K o cs).2.1, (zUn (zR0 (zSg tk)) K o cs).2.2)
  else .inr (zSg tk :: (zUn (zR0 (zSg tk)) K o cs).1, (zUn (zR0 (zSg tk)) K o cs).2.1, (zUn (zR0 (zSg tk)) K o cs).2.2, true, decide (zSg tk ≤ 12))
def zBl (g : Nat → Int32) (n p : Nat) : Nat := rRun bBlank g n 160 p
def zRun (wd g : Nat → Int32) (n : Nat) : Nat → Nat → List Int32 → Int32 → List Int32 → Bool → Bool → Bool × Nat × List Int32 × Int32 × List Int32
  | 0, p, K, o, cs, _, _ => (false, p, K, o, cs)
  | f + 1, p, K, o, cs, w, y => match zStp (zTk wd g n (zBl g n p)) (zVa wd g n (zBl g n p)) K o cs w y with
    | .inl r => (r.1, p, r.2)
    | .inr s => zRun wd g n f (vNx g n (zBl g n p)) s.1 s.2.1 s.2.2.1 s.2.2.2.1 s.2.2.2.2
def Qe (l : Launch) (G : xG) (d nn : Nat) (I : xI) (tc n : Nat) (r : Bool × Nat × List Int32 × Int32 × List Int32) (p : Nat) (K : List Int32) (o : Int32) (cs : List Int32) (w y : Bool) (b t v : Int32) (H : Nat → Int32) : Prop := XW l G (xR d 0 0) y_Model_eRead b_Model_eRead 4 (some .boolean) xK0 (xZ G nn (xm G xYf (xup (xup I 64 (zC (200 * tc) r.2.2.2.2 (I 64))) 59 (zS (I 59) (nI (vNx (I 63) n (zBl (I 63) n r.2.1))) (nI (zBl (I 63) n r.2.1)) (zTk (I 71) (I 63) n (zBl (I 63) n r.2.1)) (zVa (I 71) (I 63) n (zBl (I 63) n r.2.1)) (nI r.2.2.1.length) r.2.2.2.1 (nI r.2.2.2.2.length)))) (some (.int (xb r.1))) 0 0) nn (xm G (xup xYf 72 (some (sInts 200))) (xup (xup (xup I 64 (zC (200 * tc) cs (I 64))) 72 H) 59 (zS (I 59) (nI p) b t v (nI K.length) o (nI cs.length)))) 0 0 14 [(0, .ref (xg G 59)), (1, .int (xb w)), (2, .int (xb y))] []
theorem zUn_tSt {H : Nat → Int32} (r : Int32) : ∀ {K : List Int32} (_ : tSt H K) (o : Int32) (cs : List Int32), tSt H (zUn r K o cs).1
  | [], h, _, _ => h
  | s :: K, h, o, cs => by
    rw [zUn]
    split
    · exact zUn_tSt r (tSt_tl h) _ _
    · exact h
theorem zUn_len (r : Int32) : ∀ (K : List Int32) (o : Int32) (cs : List Int32), (zUn r K o cs).1.length + (zUn r K o cs).2.2.length = K.length + cs.length
  | [], _, _ => rfl
  | s :: K, o, cs => by
    rw [zUn]
    split
    · rw [zUn_len r K]; simp; omega
    · rfl
theorem e_A1 (l : Launch) (G : xG) {d : Nat} (nn : Nat) (hd : 4 ≤ d) (I : xI) (tc : Nat) (h8 : I 59 8 = nI tc) (htc : tc < 6) (n : Nat) (h5 : I 59 5 = nI n) (hn : n ≤ 160) (hB : ∀ j, j < n → ¬ I 63 j < 0) (r : Bool × Nat × List Int32 × Int32 × List Int32) (p : Nat) (hp : p ≤ n) (q p1 : Nat) (hq : rRun bBlank (I 63) n 160 p = q) (hp1 : vNx (I 63) n q = p1) (y : Bool) (v1 : Int32) (K : List Int32) (o : Int32) (cs : List Int32) (hl : K.length + cs.length < 200) (b t v : Int32) (H : Nat → Int32) (hH : tSt H K) (htk : zTk (I 71) (I 63) n q = 1) (hva : zVa (I 71) (I 63) n q = v1)  (ih : ∀ b t v H, tSt H ((zUn 7 K o (cs ++ [(100000 + v1)])).1) → Qe l G d nn I tc n r p1 ((zUn 7 K o (cs ++ [(100000 + v1)])).1) ((zUn 7 K o (cs ++ [(100000 + v1)])).2.1) ((zUn 7 K o (cs ++ [(100000 + v1)])).2.2) false y b t v H) : Qe l G d nn I tc n r p K o cs true y b t v H := by
  unfold Qe
  rw [show ([(0, .ref (xg G 59)), (1, .int (xb true)), (2, .int (xb y))] : List (Nat × Value)) = [(0, .ref (xg G 59)), (1, .int 1), (2, .int (xb y))] from rfl]
  refine X_aload_n d_Model_eRead_14 rfl rfl ?_
  refine X_callVv (rest := []) (by have q0 := c_Model_next l G nn (d := d - 1) (by omega) I n h5 hn (zC (200 * tc) cs (I 64)) H b t v (nI K.length) o (nI cs.length) hB p hp; rw [hq, hp1, htk, hva] at q0; exact q0) lk_Model_next ml_Model_119 (xm_obj (show (xup xYf 72 (some (sInts 200))) 59 = some sModel from rfl)) rfl rfl (Nat.le_of_ble_eq_true rfl) (xRok (d' := d - 1) (by omega) (by decide)) ⟨Nat.le_refl _, Nat.le_refl _⟩ d_Model_eRead_15 rfl ?_
  refine X_iload_n d_Model_eRead_18 rfl rfl ?_
  refine X_if_eq (tgt := 150) d_Model_eRead_19 (by decide) (fun c_1 => absurd c_1 (by decide)) (fun _ => ?_)
  refine X_aload_n d_Model_eRead_22 rfl rfl ?_
  refine X_getI (v := 1) fg_Model_86 (show (xup xYf 72 (some (sInts 200))) 59 = some sModel from rfl) rfl ((congrFun (xup_s _ _ _) _).trans (zS_20 _ _ _ _ _ _ _ _)) d_Model_eRead_23 ?_
  refine X_iconst (v := 1) d_Model_eRead_26 rfl ?_
  refine X_icmp_eq (tgt := 38) d_Model_eRead_27 (by decide) (fun _ => ?_) (fun c_2 => absurd c_2 (by decide))
  refine X_aload_n d_Model_eRead_38 rfl rfl ?_
  refine X_aload_n d_Model_eRead_39 rfl rfl ?_
  refine X_getI (v := 1) fg_Model_86 (show (xup xYf 72 (some (sInts 200))) 59 = some sModel from rfl) rfl ((congrFun (xup_s _ _ _) _).trans (zS_20 _ _ _ _ _ _ _ _)) d_Model_eRead_40 ?_
  refine X_iconst (v := 1) d_Model_eRead_43 rfl ?_
  refine X_icmp_ne (tgt := 57) d_Model_eRead_44 (by decide) (fun c_3 => absurd c_3 (by decide)) (fun _ => ?_)
  refine X_ldc cs_Model_122 d_Model_eRead_47 ?_
  refine X_aload_n d_Model_eRead_49 rfl rfl ?_
  refine X_getI (v := v1) fg_Model_89 (show (xup xYf 72 (some (sInts 200))) 59 = some sModel from rfl) rfl ((congrFun (xup_s _ _ _) _).trans (zS_21 _ _ _ _ _ _ _ _)) d_Model_eRead_50 ?_
  refine X_iadd d_Model_eRead_53 ?_
  refine X_goto (tgt := 61) d_Model_eRead_54 (by decide) ?_
  refine X_callVv (rest := []) (c_Model_puts l G nn (by omega) I tc h8 htc (nI p1) (nI q) 1 v1 H K o cs (100000 + v1) (by omega)) lk_Model_puts ml_Model_109 (xm_obj (show (xup xYf 72 (some (sInts 200))) 59 = some sModel from rfl)) rfl rfl (Nat.le_of_ble_eq_true rfl) (xRok (d' := d - 1) (by omega) (by decide)) ⟨Nat.le_refl _, Nat.le_refl _⟩ d_Model_eRead_61 rfl ?_
  refine X_aload_n d_Model_eRead_64 rfl rfl ?_
  refine X_bipush (v := 7) d_Model_eRead_65 rfl ?_
  refine X_callVv (rest := []) (c_Model_unwinds l G nn (by omega) I tc h8 htc (nI p1) (nI q) 1 v1 H K o (cs ++ [(100000 + v1)]) 7 hH (by first | omega | (simp; omega))) lk_Model_unwinds ml_Model_116 (xm_obj (show (xup xYf 72 (some (sInts 200))) 59 = some sModel from rfl)) rfl rfl (Nat.le_of_ble_eq_true rfl) (xRok (d' := d - 1) (by omega) (by decide)) ⟨Nat.le_refl _, Nat.le_refl _⟩ d_Model_eRead_67 rfl ?_
  refine X_iconst (v := 0) d_Model_eRead_70 rfl ?_
  refine X_istore_n d_Model_eRead_71 rfl (by decide) [1, 0, 2] (L' := [(0, .ref (xg G 59)), (1, .int 0), (2, .int (xb y))]) rfl ?_
  refine X_goto (tgt := 14) d_Model_eRead_72 (by decide) ?_
  have key := ih (nI q) 1 v1 H (zUn_tSt _ hH _ _)
  unfold Qe at key
  exact key
theorem e_A2 (l : Launch) (G : xG) {d : Nat} (nn : Nat) (hd : 4 ≤ d) (I : xI) (tc : Nat) (h8 : I 59 8 = nI tc) (htc : tc < 6) (n : Nat) (h5 : I 59 5 = nI n) (hn : n ≤ 160) (hB : ∀ j, j < n → ¬ I 63 j < 0) (r : Bool × Nat × List Int32 × Int32 × List Int32) (p : Nat) (hp : p ≤ n) (q p1 : Nat) (hq : rRun bBlank (I 63) n 160 p = q) (hp1 : vNx (I 63) n q = p1) (y : Bool) (v1 : Int32) (K : List Int32) (o : Int32) (cs : List Int32) (hl : K.length + cs.length < 200) (b t v : Int32) (H : Nat → Int32) (hH : tSt H K) (htk : zTk (I 71) (I 63) n q = 2) (hva : zVa (I 71) (I 63) n q = v1)  (ih : ∀ b t v H, tSt H ((zUn 7 K o (cs ++ [v1])).1) → Qe l G d nn I tc n r p1 ((zUn 7 K o (cs ++ [v1])).1) ((zUn 7 K o (cs ++ [v1])).2.1) ((zUn 7 K o (cs ++ [v1])).2.2) false y b t v H) : Qe l G d nn I tc n r p K o cs true y b t v H := by
  unfold Qe
  rw [show ([(0, .ref (xg G 59)), (1, .int (xb true)), (2, .int (xb y))] : List (Nat × Value)) = [(0, .ref (xg G 59)), (1, .int 1), (2, .int (xb y))] from rfl]
  refine X_aload_n d_Model_eRead_14 rfl rfl ?_
  refine X_callVv (rest := []) (by have q0 := c_Model_next l G nn (d := d - 1) (by omega) I n h5 hn (zC (200 * tc) cs (I 64)) H b t v (nI K.length) o (nI cs.length) hB p hp; rw [hq, hp1, htk, hva] at q0; exact q0) lk_Model_next ml_Model_119 (xm_obj (show (xup xYf 72 (some (sInts 200))) 59 = some sModel from rfl)) rfl rfl (Nat.le_of_ble_eq_true rfl) (xRok (d' := d - 1) (by omega) (by decide)) ⟨Nat.le_refl _, Nat.le_refl _⟩ d_Model_eRead_15 rfl ?_
  refine X_iload_n d_Model_eRead_18 rfl rfl ?_
  refine X_if_eq (tgt := 150) d_Model_eRead_19 (by decide) (fun c_1 => absurd c_1 (by decide)) (fun _ => ?_)
  refine X_aload_n d_Model_eRead_22 rfl rfl ?_
  refine X_getI (v := 2) fg_Model_86 (show (xup xYf 72 (some (sInts 200))) 59 = some sModel from rfl) rfl ((congrFun (xup_s _ _ _) _).trans (zS_20 _ _ _ _ _ _ _ _)) d_Model_eRead_23 ?_
  refine X_iconst (v := 1) d_Model_eRead_26 rfl ?_
  refine X_icmp_eq (tgt := 38) d_Model_eRead_27 (by decide) (fun c_2 => absurd c_2 (by decide)) (fun _ => ?_)
  refine X_aload_n d_Model_eRead_30 rfl rfl ?_
  refine X_getI (v := 2) fg_Model_86 (show (xup xYf 72 (some (sInts 200))) 59 = some sModel from rfl) rfl ((congrFun (xup_s _ _ _) _).trans (zS_20 _ _ _ _ _ _ _ _)) d_Model_eRead_31 ?_
  refine X_iconst (v := 2) d_Model_eRead_34 rfl ?_
  refine X_icmp_ne (tgt := 75) d_Model_eRead_35 (by decide) (fun c_3 => absurd c_3 (by decide)) (fun _ => ?_)
  refine X_aload_n d_Model_eRead_38 rfl rfl ?_
  refine X_aload_n d_Model_eRead_39 rfl rfl ?_
  refine X_getI (v := 2) fg_Model_86 (show (xup xYf 72 (some (sInts 200))) 59 = some sModel from rfl) rfl ((congrFun (xup_s _ _ _) _).trans (zS_20 _ _ _ _ _ _ _ _)) d_Model_eRead_40 ?_
  refine X_iconst (v := 1) d_Model_eRead_43 rfl ?_
  refine X_icmp_ne (tgt := 57) d_Model_eRead_44 (by decide) (fun _ => ?_) (fun c_4 => absurd c_4 (by decide))
  refine X_aload_n d_Model_eRead_57 rfl rfl ?_
  refine X_getI (v := v1) fg_Model_89 (show (xup xYf 72 (some (sInts 200))) 59 = some sModel from rfl) rfl ((congrFun (xup_s _ _ _) _).trans (zS_21 _ _ _ _ _ _ _ _)) d_Model_eRead_58 ?_
  refine X_callVv (rest := []) (c_Model_puts l G nn (by omega) I tc h8 htc (nI p1) (nI q) 2 v1 H K o cs v1 (by omega)) lk_Model_puts ml_Model_109 (xm_obj (show (xup xYf 72 (some (sInts 200))) 59 = some sModel from rfl)) rfl rfl (Nat.le_of_ble_eq_true rfl) (xRok (d' := d - 1) (by omega) (by decide)) ⟨Nat.le_refl _, Nat.le_refl _⟩ d_Model_eRead_61 rfl ?_
  refine X_aload_n d_Model_eRead_64 rfl rfl ?_
  refine X_bipush (v := 7) d_Model_eRead_65 rfl ?_
  refine X_callVv (rest := []) (c_Model_unwinds l G nn (by omega) I tc h8 htc (nI p1) (nI q) 2 v1 H K o (cs ++ [v1]) 7 hH (by first | omega | (simp; omega))) lk_Model_unwinds ml_Model_116 (xm_obj (show (xup xYf 72 (some (sInts 200))) 59 = some sModel from rfl)) rfl rfl (Nat.le_of_ble_eq_true rfl) (xRok (d' := d - 1) (by omega) (by decide)) ⟨Nat.le_refl _, Nat.le_refl _⟩ d_Model_eRead_67 rfl ?_
  refine X_iconst (v := 0) d_Model_eRead_70 rfl ?_
  refine X_istore_n d_Model_eRead_71 rfl (by decide) [1, 0, 2] (L' := [(0, .ref (xg G 59)), (1, .int 0), (2, .int (xb y))]) rfl ?_
  refine X_goto (tgt := 14) d_Model_eRead_72 (by decide) ?_
  have key := ih (nI q) 2 v1 H (zUn_tSt _ hH _ _)
  unfold Qe at key
  exact key
theorem e_AN (l : Launch) (G : xG) {d : Nat} (nn : Nat) (hd : 4 ≤ d) (I : xI) (tc : Nat) (h8 : I 59 8 = nI tc) (htc : tc < 6) (n : Nat) (h5 : I 59 5 = nI n) (hn : n ≤ 160) (hB : ∀ j, j < n → ¬ I 63 j < 0) (r : Bool × Nat × List Int32 × Int32 × List Int32) (p : Nat) (hp : p ≤ n) (q p1 : Nat) (hq : rRun bBlank (I 63) n 160 p = q) (hp1 : vNx (I 63) n q = p1) (v1 : Int32) (K : List Int32) (o : Int32) (cs : List Int32) (hl : K.length + cs.length < 200) (b t v : Int32) (H : Nat → Int32) (hH : tSt H K) (htk : zTk (I 71) (I 63) n q = 6) (hva : zVa (I 71) (I 63) n q = v1) (ho : ¬ o = 5) (ih : ∀ b t v H, tSt H (13 :: K) → Qe l G d nn I tc n r p1 (13 :: K) (o + 1) cs true true b t v H) : Qe l G d nn I tc n r p K o cs true true b t v H := by
  unfold Qe
  rw [show ([(0, .ref (xg G 59)), (1, .int (xb true)), (2, .int (xb true))] : List (Nat × Value)) = [(0, .ref (xg G 59)), (1, .int 1), (2, .int 1)] from rfl]
  refine X_aload_n d_Model_eRead_14 rfl rfl ?_
  refine X_callVv (rest := []) (by have q0 := c_Model_next l G nn (d := d - 1) (by omega) I n h5 hn (zC (200 * tc) cs (I 64)) H b t v (nI K.length) o (nI cs.length) hB p hp; rw [hq, hp1, htk, hva] at q0; exact q0) lk_Model_next ml_Model_119 (xm_obj (show (xup xYf 72 (some (sInts 200))) 59 = some sModel from rfl)) rfl rfl (Nat.le_of_ble_eq_true rfl) (xRok (d' := d - 1) (by omega) (by decide)) ⟨Nat.le_refl _, Nat.le_refl _⟩ d_Model_eRead_15 rfl ?_
  refine X_iload_n d_Model_eRead_18 rfl rfl ?_
  refine X_if_eq (tgt := 150) d_Model_eRead_19 (by decide) (fun c_1 => absurd c_1 (by decide)) (fun _ => ?_)
  refine X_aload_n d_Model_eRead_22 rfl rfl ?_
  refine X_getI (v := 6) fg_Model_86 (show (xup xYf 72 (some (sInts 200))) 59 = some sModel from rfl) rfl ((congrFun (xup_s _ _ _) _).trans (zS_20 _ _ _ _ _ _ _ _)) d_Model_eRead_23 ?_
  refine X_iconst (v := 1) d_Model_eRead_26 rfl ?_
  refine X_icmp_eq (tgt := 38) d_Model_eRead_27 (by decide) (fun c_2 => absurd c_2 (by decide)) (fun _ => ?_)
  refine X_aload_n d_Model_eRead_30 rfl rfl ?_
  refine X_getI (v := 6) fg_Model_86 (show (xup xYf 72 (some (sInts 200))) 59 = some sModel from rfl) rfl ((congrFun (xup_s _ _ _) _).trans (zS_20 _ _ _ _ _ _ _ _)) d_Model_eRead_31 ?_
  refine X_iconst (v := 2) d_Model_eRead_34 rfl ?_
  refine X_icmp_ne (tgt := 75) d_Model_eRead_35 (by decide) (fun _ => ?_) (fun c_3 => absurd c_3 (by decide))
  refine X_aload_n d_Model_eRead_75 rfl rfl ?_
  refine X_getI (v := 6) fg_Model_86 (show (xup xYf 72 (some (sInts 200))) 59 = some sModel from rfl) rfl ((congrFun (xup_s _ _ _) _).trans (zS_20 _ _ _ _ _ _ _ _)) d_Model_eRead_76 ?_
  refine X_bipush (v := 6) d_Model_eRead_79 rfl ?_
  refine X_icmp_ne (tgt := 99) d_Model_eRead_81 (by decide) (fun c_4 => absurd c_4 (by decide)) (fun _ => ?_)
  refine X_iload_n d_Model_eRead_84 rfl rfl ?_
  refine X_if_eq (tgt := 99) d_Model_eRead_85 (by decide) (fun c_5 => absurd c_5 (by decide)) (fun _ => ?_)
  refine X_aload_n d_Model_eRead_88 rfl rfl ?_
  refine X_bipush (v := 13) d_Model_eRead_89 rfl ?_
  refine X_callV (v := .int 1) (rest := []) (c_Model_opensOne l G nn (by omega) I tc h8 htc (nI p1) (nI q) 6 v1 H K o cs 13 (by omega) ho) lk_Model_opensOne ml_Model_123 (xm_obj (show (xup xYf 72 (some (sInts 200))) 59 = some sModel from rfl)) rfl rfl (Nat.le_of_ble_eq_true rfl) (xRok (d' := d - 1) (by omega) (by decide)) ⟨Nat.le_refl _, Nat.le_refl _⟩ d_Model_eRead_91 rfl ?_
  refine X_if_ne (tgt := 14) d_Model_eRead_94 (by decide) (fun _ => ?_) (fun c_6 => absurd c_6 (by decide))
  have key := ih (nI q) 6 v1 (xup H K.length 13) (tSt_push hH _)
  unfold Qe at key
  exact key
theorem e_ANx (l : Launch) (G : xG) {d : Nat} (nn : Nat) (hd : 4 ≤ d) (I : xI) (tc : Nat) (h8 : I 59 8 = nI tc) (htc : tc < 6) (n : Nat) (h5 : I 59 5 = nI n) (hn : n ≤ 160) (hB : ∀ j, j < n → ¬ I 63 j < 0) (r : Bool × Nat × List Int32 × Int32 × List Int32) (p : Nat) (hp : p ≤ n) (q p1 : Nat) (hq : rRun bBlank (I 63) n 160 p = q) (hp1 : vNx (I 63) n q = p1) (v1 : Int32) (K : List Int32) (o : Int32) (cs : List Int32) (hl : K.length + cs.length < 200) (b t v : Int32) (H : Nat → Int32) (hH : tSt H K) (htk : zTk (I 71) (I 63) n q = 6) (hva : zVa (I 71) (I 63) n q = v1) (ho : o = 5) (hr : r = (false, p, K, o, cs)) : Qe l G d nn I tc n r p K o cs true true b t v H := by
  unfold Qe
  rw [show ([(0, .ref (xg G 59)), (1, .int (xb true)), (2, .int (xb true))] : List (Nat × Value)) = [(0, .ref (xg G 59)), (1, .int 1), (2, .int 1)] from rfl]
  refine X_aload_n d_Model_eRead_14 rfl rfl ?_
  refine X_callVv (rest := []) (by have q0 := c_Model_next l G nn (d := d - 1) (by omega) I n h5 hn (zC (200 * tc) cs (I 64)) H b t v (nI K.length) o (nI cs.length) hB p hp; rw [hq, hp1, htk, hva] at q0; exact q0) lk_Model_next ml_Model_119 (xm_obj (show (xup xYf 72 (some (sInts 200))) 59 = some sModel from rfl)) rfl rfl (Nat.le_of_ble_eq_true rfl) (xRok (d' := d - 1) (by omega) (by decide)) ⟨Nat.le_refl _, Nat.le_refl _⟩ d_Model_eRead_15 rfl ?_
  refine X_iload_n d_Model_eRead_18 rfl rfl ?_
  refine X_if_eq (tgt := 150) d_Model_eRead_19 (by decide) (fun c_1 => absurd c_1 (by decide)) (fun _ => ?_)
  refine X_aload_n d_Model_eRead_22 rfl rfl ?_
  refine X_getI (v := 6) fg_Model_86 (show (xup xYf 72 (some (sInts 200))) 59 = some sModel from rfl) rfl ((congrFun (xup_s _ _ _) _).trans (zS_20 _ _ _ _ _ _ _ _)) d_Model_eRead_23 ?_
  refine X_iconst (v := 1) d_Model_eRead_26 rfl ?_
  refine X_icmp_eq (tgt := 38) d_Model_eRead_27 (by decide) (fun c_2 => absurd c_2 (by decide)) (fun _ => ?_)
  refine X_aload_n d_Model_eRead_30 rfl rfl ?_
  refine X_getI (v := 6) fg_Model_86 (show (xup xYf 72 (some (sInts 200))) 59 = some sModel from rfl) rfl ((congrFun (xup_s _ _ _) _).trans (zS_20 _ _ _ _ _ _ _ _)) d_Model_eRead_31 ?_
  refine X_iconst (v := 2) d_Model_eRead_34 rfl ?_
  refine X_icmp_ne (tgt := 75) d_Model_eRead_35 (by decide) (fun _ => ?_) (fun c_3 => absurd c_3 (by decide))
  refine X_aload_n d_Model_eRead_75 rfl rfl ?_
  refine X_getI (v := 6) fg_Model_86 (show (xup xYf 72 (some (sInts 200))) 59 = some sModel from rfl) rfl ((congrFun (xup_s _ _ _) _).trans (zS_20 _ _ _ _ _ _ _ _)) d_Model_eRead_76 ?_
  refine X_bipush (v := 6) d_Model_eRead_79 rfl ?_
  refine X_icmp_ne (tgt := 99) d_Model_eRead_81 (by decide) (fun c_4 => absurd c_4 (by decide)) (fun _ => ?_)
  refine X_iload_n d_Model_eRead_84 rfl rfl ?_
  refine X_if_eq (tgt := 99) d_Model_eRead_85 (by decide) (fun c_5 => absurd c_5 (by decide)) (fun _ => ?_)
  refine X_aload_n d_Model_eRead_88 rfl rfl ?_
  refine X_bipush (v := 13) d_Model_eRead_89 rfl ?_
  refine X_callV (v := .int 0) (rest := []) (c_Model_opensNo l G nn (by omega) I tc h8 htc (nI p1) (nI q) 6 v1 H K o cs 13 ho) lk_Model_opensOne ml_Model_123 (xm_obj (show (xup xYf 72 (some (sInts 200))) 59 = some sModel from rfl)) rfl rfl (Nat.le_of_ble_eq_true rfl) (xRok (d' := d - 1) (by omega) (by decide)) ⟨Nat.le_refl _, Nat.le_refl _⟩ d_Model_eRead_91 rfl ?_
  refine X_if_ne (tgt := 14) d_Model_eRead_94 (by decide) (fun c_6 => absurd c_6 (by decide)) (fun _ => ?_)
  refine X_iconst (v := 0) d_Model_eRead_97 rfl ?_
  rw [hr]
  exact X_zret rfl rfl rfl (xle_tr (xle_72 (J := xup (xup (xup I 64 (zC (200 * tc) cs (I 64))) 72 H) 59 (zS (I 59) (nI p1) (nI q) 6 v1 (nI K.length) o (nI cs.length))) (I := xup (xup I 64 (zC (200 * tc) cs (I 64))) 59 (zS (I 59) (nI p1) (nI q) 6 v1 (nI K.length) o (nI cs.length))) H (fun k hk => by simp only [xup_ap, if_neg hk])) (xle_of (congrArg (xm G xYf) (by simp only [zBl, hq, hp1, htk, hva])))) d_Model_eRead_98
theorem e_AM (l : Launch) (G : xG) {d : Nat} (nn : Nat) (hd : 4 ≤ d) (I : xI) (tc : Nat) (h8 : I 59 8 = nI tc) (htc : tc < 6) (n : Nat) (h5 : I 59 5 = nI n) (hn : n ≤ 160) (hB : ∀ j, j < n → ¬ I 63 j < 0) (r : Bool × Nat × List Int32 × Int32 × List Int32) (p : Nat) (hp : p ≤ n) (q p1 : Nat) (hq : rRun bBlank (I 63) n 160 p = q) (hp1 : vNx (I 63) n q = p1) (y : Bool) (v1 : Int32) (K : List Int32) (o : Int32) (cs : List Int32) (hl : K.length + cs.length < 200) (b t v : Int32) (H : Nat → Int32) (hH : tSt H K) (htk : zTk (I 71) (I 63) n q = 45) (hva : zVa (I 71) (I 63) n q = v1) (ho : ¬ o = 5) (ih : ∀ b t v H, tSt H (19 :: K) → Qe l G d nn I tc n r p1 (19 :: K) (o + 1) cs true false b t v H) : Qe l G d nn I tc n r p K o cs true y b t v H := by
  unfold Qe
  rw [show ([(0, .ref (xg G 59)), (1, .int (xb true)), (2, .int (xb y))] : List (Nat × Value)) = [(0, .ref (xg G 59)), (1, .int 1), (2, .int (xb y))] from rfl]
  refine X_aload_n d_Model_eRead_14 rfl rfl ?_
  refine X_callVv (rest := []) (by have q0 := c_Model_next l G nn (d := d - 1) (by omega) I n h5 hn (zC (200 * tc) cs (I 64)) H b t v (nI K.length) o (nI cs.length) hB p hp; rw [hq, hp1, htk, hva] at q0; exact q0) lk_Model_next ml_Model_119 (xm_obj (show (xup xYf 72 (some (sInts 200))) 59 = some sModel from rfl)) rfl rfl (Nat.le_of_ble_eq_true rfl) (xRok (d' := d - 1) (by omega) (by decide)) ⟨Nat.le_refl _, Nat.le_refl _⟩ d_Model_eRead_15 rfl ?_
  refine X_iload_n d_Model_eRead_18 rfl rfl ?_
  refine X_if_eq (tgt := 150) d_Model_eRead_19 (by decide) (fun c_1 => absurd c_1 (by decide)) (fun _ => ?_)
  refine X_aload_n d_Model_eRead_22 rfl rfl ?_
  refine X_getI (v := 45) fg_Model_86 (show (xup xYf 72 (some (sInts 200))) 59 = some sModel from rfl) rfl ((congrFun (xup_s _ _ _) _).trans (zS_20 _ _ _ _ _ _ _ _)) d_Model_eRead_23 ?_
  refine X_iconst (v := 1) d_Model_eRead_26 rfl ?_
  refine X_icmp_eq (tgt := 38) d_Model_eRead_27 (by decide) (fun c_2 => absurd c_2 (by decide)) (fun _ => ?_)
  refine X_aload_n d_Model_eRead_30 rfl rfl ?_
  refine X_getI (v := 45) fg_Model_86 (show (xup xYf 72 (some (sInts 200))) 59 = some sModel from rfl) rfl ((congrFun (xup_s _ _ _) _).trans (zS_20 _ _ _ _ _ _ _ _)) d_Model_eRead_31 ?_
  refine X_iconst (v := 2) d_Model_eRead_34 rfl ?_
  refine X_icmp_ne (tgt := 75) d_Model_eRead_35 (by decide) (fun _ => ?_) (fun c_3 => absurd c_3 (by decide))
  refine X_aload_n d_Model_eRead_75 rfl rfl ?_
  refine X_getI (v := 45) fg_Model_86 (show (xup xYf 72 (some (sInts 200))) 59 = some sModel from rfl) rfl ((congrFun (xup_s _ _ _) _).trans (zS_20 _ _ _ _ _ _ _ _)) d_Model_eRead_76 ?_
  refine X_bipush (v := 6) d_Model_eRead_79 rfl ?_
  refine X_icmp_ne (tgt := 99) d_Model_eRead_81 (by decide) (fun _ => ?_) (fun c_4 => absurd c_4 (by decide))
  refine X_aload_n d_Model_eRead_99 rfl rfl ?_
  refine X_getI (v := 45) fg_Model_86 (show (xup xYf 72 (some (sInts 200))) 59 = some sModel from rfl) rfl ((congrFun (xup_s _ _ _) _).trans (zS_20 _ _ _ _ _ _ _ _)) d_Model_eRead_100 ?_
  refine X_bipush (v := 45) d_Model_eRead_103 rfl ?_
  refine X_icmp_ne (tgt := 124) d_Model_eRead_105 (by decide) (fun c_5 => absurd c_5 (by decide)) (fun _ => ?_)
  refine X_aload_n d_Model_eRead_108 rfl rfl ?_
  refine X_bipush (v := 19) d_Model_eRead_109 rfl ?_
  refine X_callV (v := .int 1) (rest := []) (c_Model_opensOne l G nn (by omega) I tc h8 htc (nI p1) (nI q) 45 v1 H K o cs 19 (by omega) ho) lk_Model_opensOne ml_Model_123 (xm_obj (show (xup xYf 72 (some (sInts 200))) 59 = some sModel from rfl)) rfl rfl (Nat.le_of_ble_eq_true rfl) (xRok (d' := d - 1) (by omega) (by decide)) ⟨Nat.le_refl _, Nat.le_refl _⟩ d_Model_eRead_111 rfl ?_
  refine X_if_ne (tgt := 119) d_Model_eRead_114 (by decide) (fun _ => ?_) (fun c_6 => absurd c_6 (by decide))
  refine X_iconst (v := 0) d_Model_eRead_119 rfl ?_
  refine X_istore_n d_Model_eRead_120 rfl (by decide) [1, 2, 0] (L' := [(0, .ref (xg G 59)), (1, .int 1), (2, .int 0)]) rfl ?_
  refine X_goto (tgt := 14) d_Model_eRead_121 (by decide) ?_
  have key := ih (nI q) 45 v1 (xup H K.length 19) (tSt_push hH _)
  unfold Qe at key
  exact key
theorem e_AMx (l : Launch) (G : xG) {d : Nat} (nn : Nat) (hd : 4 ≤ d) (I : xI) (tc : Nat) (h8 : I 59 8 = nI tc) (htc : tc < 6) (n : Nat) (h5 : I 59 5 = nI n) (hn : n ≤ 160) (hB : ∀ j, j < n → ¬ I 63 j < 0) (r : Bool × Nat × List Int32 × Int32 × List Int32) (p : Nat) (hp : p ≤ n) (q p1 : Nat) (hq : rRun bBlank (I 63) n 160 p = q) (hp1 : vNx (I 63) n q = p1) (y : Bool) (v1 : Int32) (K : List Int32) (o : Int32) (cs : List Int32) (hl : K.length + cs.length < 200) (b t v : Int32) (H : Nat → Int32) (hH : tSt H K) (htk : zTk (I 71) (I 63) n q = 45) (hva : zVa (I 71) (I 63) n q = v1) (ho : o = 5) (hr : r = (false, p, K, o, cs)) : Qe l G d nn I tc n r p K o cs true y b t v H := by
  unfold Qe
  rw [show ([(0, .ref (xg G 59)), (1, .int (xb true)), (2, .int (xb y))] : List (Nat × Value)) = [(0, .ref (xg G 59)), (1, .int 1), (2, .int (xb y))] from rfl]
  refine X_aload_n d_Model_eRead_14 rfl rfl ?_
  refine X_callVv (rest := []) (by have q0 := c_Model_next l G nn (d := d - 1) (by omega) I n h5 hn (zC (200 * tc) cs (I 64)) H b t v (nI K.length) o (nI cs.length) hB p hp; rw [hq, hp1, htk, hva] at q0; exact q0) lk_Model_next ml_Model_119 (xm_obj (show (xup xYf 72 (some (sInts 200))) 59 = some sModel from rfl)) rfl rfl (Nat.le_of_ble_eq_true rfl) (xRok (d' := d - 1) (by omega) (by decide)) ⟨Nat.le_refl _, Nat.le_refl _⟩ d_Model_eRead_15 rfl ?_
  refine X_iload_n d_Model_eRead_18 rfl rfl ?_
  refine X_if_eq (tgt := 150) d_Model_eRead_19 (by decide) (fun c_1 => absurd c_1 (by decide)) (fun _ => ?_)
  refine X_aload_n d_Model_eRead_22 rfl rfl ?_
  refine X_getI (v := 45) fg_Model_86 (show (xup xYf 72 (some (sInts 200))) 59 = some sModel from rfl) rfl ((congrFun (xup_s _ _ _) _).trans (zS_20 _ _ _ _ _ _ _ _)) d_Model_eRead_23 ?_
  refine X_iconst (v := 1) d_Model_eRead_26 rfl ?_
  refine X_icmp_eq (tgt := 38) d_Model_eRead_27 (by decide) (fun c_2 => absurd c_2 (by decide)) (fun _ => ?_)
  refine X_aload_n d_Model_eRead_30 rfl rfl ?_
  refine X_getI (v := 45) fg_Model_86 (show (xup xYf 72 (some (sInts 200))) 59 = some sModel from rfl) rfl ((congrFun (xup_s _ _ _) _).trans (zS_20 _ _ _ _ _ _ _ _)) d_Model_eRead_31 ?_
  refine X_iconst (v := 2) d_Model_eRead_34 rfl ?_
  refine X_icmp_ne (tgt := 75) d_Model_eRead_35 (by decide) (fun _ => ?_) (fun c_3 => absurd c_3 (by decide))
  refine X_aload_n d_Model_eRead_75 rfl rfl ?_
  refine X_getI (v := 45) fg_Model_86 (show (xup xYf 72 (some (sInts 200))) 59 = some sModel from rfl) rfl ((congrFun (xup_s _ _ _) _).trans (zS_20 _ _ _ _ _ _ _ _)) d_Model_eRead_76 ?_
  refine X_bipush (v := 6) d_Model_eRead_79 rfl ?_
  refine X_icmp_ne (tgt := 99) d_Model_eRead_81 (by decide) (fun _ => ?_) (fun c_4 => absurd c_4 (by decide))
  refine X_aload_n d_Model_eRead_99 rfl rfl ?_
  refine X_getI (v := 45) fg_Model_86 (show (xup xYf 72 (some (sInts 200))) 59 = some sModel from rfl) rfl ((congrFun (xup_s _ _ _) _).trans (zS_20 _ _ _ _ _ _ _ _)) d_Model_eRead_100 ?_
  refine X_bipush (v := 45) d_Model_eRead_103 rfl ?_
  refine X_icmp_ne (tgt := 124) d_Model_eRead_105 (by decide) (fun c_5 => absurd c_5 (by decide)) (fun _ => ?_)
  refine X_aload_n d_Model_eRead_108 rfl rfl ?_
  refine X_bipush (v := 19) d_Model_eRead_109 rfl ?_
  refine X_callV (v := .int 0) (rest := []) (c_Model_opensNo l G nn (by omega) I tc h8 htc (nI p1) (nI q) 45 v1 H K o cs 19 ho) lk_Model_opensOne ml_Model_123 (xm_obj (show (xup xYf 72 (some (sInts 200))) 59 = some sModel from rfl)) rfl rfl (Nat.le_of_ble_eq_true rfl) (xRok (d' := d - 1) (by omega) (by decide)) ⟨Nat.le_refl _, Nat.le_refl _⟩ d_Model_eRead_111 rfl ?_
  refine X_if_ne (tgt := 119) d_Model_eRead_114 (by decide) (fun c_6 => absurd c_6 (by decide)) (fun _ => ?_)
  refine X_iconst (v := 0) d_Model_eRead_117 rfl ?_
  rw [hr]
  exact X_zret rfl rfl rfl (xle_tr (xle_72 (J := xup (xup (xup I 64 (zC (200 * tc) cs (I 64))) 72 H) 59 (zS (I 59) (nI p1) (nI q) 45 v1 (nI K.length) o (nI cs.length))) (I := xup (xup I 64 (zC (200 * tc) cs (I 64))) 59 (zS (I 59) (nI p1) (nI q) 45 v1 (nI K.length) o (nI cs.length))) H (fun k hk => by simp only [xup_ap, if_neg hk])) (xle_of (congrArg (xm G xYf) (by simp only [zBl, hq, hp1, htk, hva])))) d_Model_eRead_118
theorem e_AP (l : Launch) (G : xG) {d : Nat} (nn : Nat) (hd : 4 ≤ d) (I : xI) (tc : Nat) (h8 : I 59 8 = nI tc) (htc : tc < 6) (n : Nat) (h5 : I 59 5 = nI n) (hn : n ≤ 160) (hB : ∀ j, j < n → ¬ I 63 j < 0) (r : Bool × Nat × List Int32 × Int32 × List Int32) (p : Nat) (hp : p ≤ n) (q p1 : Nat) (hq : rRun bBlank (I 63) n 160 p = q) (hp1 : vNx (I 63) n q = p1) (y : Bool) (v1 : Int32) (K : List Int32) (o : Int32) (cs : List Int32) (hl : K.length + cs.length < 200) (b t v : Int32) (H : Nat → Int32) (hH : tSt H K) (htk : zTk (I 71) (I 63) n q = 40) (hva : zVa (I 71) (I 63) n q = v1) (ho : ¬ o = 5) (ih : ∀ b t v H, tSt H (0 :: K) → Qe l G d nn I tc n r p1 (0 :: K) (o + 1) cs true true b t v H) : Qe l G d nn I tc n r p K o cs true y b t v H := by
  unfold Qe
  rw [show ([(0, .ref (xg G 59)), (1, .int (xb true)), (2, .int (xb y))] : List (Nat × Value)) = [(0, .ref (xg G 59)), (1, .int 1), (2, .int (xb y))] from rfl]
  refine X_aload_n d_Model_eRead_14 rfl rfl ?_
  refine X_callVv (rest := []) (by have q0 := c_Model_next l G nn (d := d - 1) (by omega) I n h5 hn (zC (200 * tc) cs (I 64)) H b t v (nI K.length) o (nI cs.length) hB p hp; rw [hq, hp1, htk, hva] at q0; exact q0) lk_Model_next ml_Model_119 (xm_obj (show (xup xYf 72 (some (sInts 200))) 59 = some sModel from rfl)) rfl rfl (Nat.le_of_ble_eq_true rfl) (xRok (d' := d - 1) (by omega) (by decide)) ⟨Nat.le_refl _, Nat.le_refl _⟩ d_Model_eRead_15 rfl ?_
  refine X_iload_n d_Model_eRead_18 rfl rfl ?_
  refine X_if_eq (tgt := 150) d_Model_eRead_19 (by decide) (fun c_1 => absurd c_1 (by decide)) (fun _ => ?_)
  refine X_aload_n d_Model_eRead_22 rfl rfl ?_
  refine X_getI (v := 40) fg_Model_86 (show (xup xYf 72 (some (sInts 200))) 59 = some sModel from rfl) rfl ((congrFun (xup_s _ _ _) _).trans (zS_20 _ _ _ _ _ _ _ _)) d_Model_eRead_23 ?_
  refine X_iconst (v := 1) d_Model_eRead_26 rfl ?_
  refine X_icmp_eq (tgt := 38) d_Model_eRead_27 (by decide) (fun c_2 => absurd c_2 (by decide)) (fun _ => ?_)
  refine X_aload_n d_Model_eRead_30 rfl rfl ?_
  refine X_getI (v := 40) fg_Model_86 (show (xup xYf 72 (some (sInts 200))) 59 = some sModel from rfl) rfl ((congrFun (xup_s _ _ _) _).trans (zS_20 _ _ _ _ _ _ _ _)) d_Model_eRead_31 ?_
  refine X_iconst (v := 2) d_Model_eRead_34 rfl ?_
  refine X_icmp_ne (tgt := 75) d_Model_eRead_35 (by decide) (fun _ => ?_) (fun c_3 => absurd c_3 (by decide))
  refine X_aload_n d_Model_eRead_75 rfl rfl ?_
  refine X_getI (v := 40) fg_Model_86 (show (xup xYf 72 (some (sInts 200))) 59 = some sModel from rfl) rfl ((congrFun (xup_s _ _ _) _).trans (zS_20 _ _ _ _ _ _ _ _)) d_Model_eRead_76 ?_
  refine X_bipush (v := 6) d_Model_eRead_79 rfl ?_
  refine X_icmp_ne (tgt := 99) d_Model_eRead_81 (by decide) (fun _ => ?_) (fun c_4 => absurd c_4 (by decide))
  refine X_aload_n d_Model_eRead_99 rfl rfl ?_
  refine X_getI (v := 40) fg_Model_86 (show (xup xYf 72 (some (sInts 200))) 59 = some sModel from rfl) rfl ((congrFun (xup_s _ _ _) _).trans (zS_20 _ _ _ _ _ _ _ _)) d_Model_eRead_100 ?_
  refine X_bipush (v := 45) d_Model_eRead_103 rfl ?_
  refine X_icmp_ne (tgt := 124) d_Model_eRead_105 (by decide) (fun _ => ?_) (fun c_5 => absurd c_5 (by decide))
  refine X_aload_n d_Model_eRead_124 rfl rfl ?_
  refine X_getI (v := 40) fg_Model_86 (show (xup xYf 72 (some (sInts 200))) 59 = some sModel from rfl) rfl ((congrFun (xup_s _ _ _) _).trans (zS_20 _ _ _ _ _ _ _ _)) d_Model_eRead_125 ?_
  refine X_bipush (v := 40) d_Model_eRead_128 rfl ?_
  refine X_icmp_ne (tgt := 148) d_Model_eRead_130 (by decide) (fun c_6 => absurd c_6 (by decide)) (fun _ => ?_)
  refine X_aload_n d_Model_eRead_133 rfl rfl ?_
  refine X_iconst (v := 0) d_Model_eRead_134 rfl ?_
  refine X_callV (v := .int 1) (rest := []) (c_Model_opensOne l G nn (by omega) I tc h8 htc (nI p1) (nI q) 40 v1 H K o cs 0 (by omega) ho) lk_Model_opensOne ml_Model_123 (xm_obj (show (xup xYf 72 (some (sInts 200))) 59 = some sModel from rfl)) rfl rfl (Nat.le_of_ble_eq_true rfl) (xRok (d' := d - 1) (by omega) (by decide)) ⟨Nat.le_refl _, Nat.le_refl _⟩ d_Model_eRead_135 rfl ?_
  refine X_if_ne (tgt := 143) d_Model_eRead_138 (by decide) (fun _ => ?_) (fun c_7 => absurd c_7 (by decide))
  refine X_iconst (v := 1) d_Model_eRead_143 rfl ?_
  refine X_istore_n d_Model_eRead_144 rfl (by decide) [1, 2, 0] (L' := [(0, .ref (xg G 59)), (1, .int 1), (2, .int 1)]) rfl ?_
  refine X_goto (tgt := 14) d_Model_eRead_145 (by decide) ?_
  have key := ih (nI q) 40 v1 (xup H K.length 0) (tSt_push hH _)
  unfold Qe at key
  exact key
theorem e_APx (l : Launch) (G : xG) {d : Nat} (nn : Nat) (hd : 4 ≤ d) (I : xI) (tc : Nat) (h8 : I 59 8 = nI tc) (htc : tc < 6) (n : Nat) (h5 : I 59 5 = nI n) (hn : n ≤ 160) (hB : ∀ j, j < n → ¬ I 63 j < 0) (r : Bool × Nat × List Int32 × Int32 × List Int32) (p : Nat) (hp : p ≤ n) (q p1 : Nat) (hq : rRun bBlank (I 63) n 160 p = q) (hp1 : vNx (I 63) n q = p1) (y : Bool) (v1 : Int32) (K : List Int32) (o : Int32) (cs : List Int32) (hl : K.length + cs.length < 200) (b t v : Int32) (H : Nat → Int32) (hH : tSt H K) (htk : zTk (I 71) (I 63) n q = 40) (hva : zVa (I 71) (I 63) n q = v1) (ho : o = 5) (hr : r = (false, p, K, o, cs)) : Qe l G d nn I tc n r p K o cs true y b t v H := by
  unfold Qe
  rw [show ([(0, .ref (xg G 59)), (1, .int (xb true)), (2, .int (xb y))] : List (Nat × Value)) = [(0, .ref (xg G 59)), (1, .int 1), (2, .int (xb y))] from rfl]
  refine X_aload_n d_Model_eRead_14 rfl rfl ?_
  refine X_callVv (rest := []) (by have q0 := c_Model_next l G nn (d := d - 1) (by omega) I n h5 hn (zC (200 * tc) cs (I 64)) H b t v (nI K.length) o (nI cs.length) hB p hp; rw [hq, hp1, htk, hva] at q0; exact q0) lk_Model_next ml_Model_119 (xm_obj (show (xup xYf 72 (some (sInts 200))) 59 = some sModel from rfl)) rfl rfl (Nat.le_of_ble_eq_true rfl) (xRok (d' := d - 1) (by omega) (by decide)) ⟨Nat.le_refl _, Nat.le_refl _⟩ d_Model_eRead_15 rfl ?_
  refine X_iload_n d_Model_eRead_18 rfl rfl ?_
  refine X_if_eq (tgt := 150) d_Model_eRead_19 (by decide) (fun c_1 => absurd c_1 (by decide)) (fun _ => ?_)
  refine X_aload_n d_Model_eRead_22 rfl rfl ?_
  refine X_getI (v := 40) fg_Model_86 (show (xup xYf 72 (some (sInts 200))) 59 = some sModel from rfl) rfl ((congrFun (xup_s _ _ _) _).trans (zS_20 _ _ _ _ _ _ _ _)) d_Model_eRead_23 ?_
  refine X_iconst (v := 1) d_Model_eRead_26 rfl ?_
  refine X_icmp_eq (tgt := 38) d_Model_eRead_27 (by decide) (fun c_2 => absurd c_2 (by decide)) (fun _ => ?_)
  refine X_aload_n d_Model_eRead_30 rfl rfl ?_
  refine X_getI (v := 40) fg_Model_86 (show (xup xYf 72 (some (sInts 200))) 59 = some sModel from rfl) rfl ((congrFun (xup_s _ _ _) _).trans (zS_20 _ _ _ _ _ _ _ _)) d_Model_eRead_31 ?_
  refine X_iconst (v := 2) d_Model_eRead_34 rfl ?_
  refine X_icmp_ne (tgt := 75) d_Model_eRead_35 (by decide) (fun _ => ?_) (fun c_3 => absurd c_3 (by decide))
  refine X_aload_n d_Model_eRead_75 rfl rfl ?_
  refine X_getI (v := 40) fg_Model_86 (show (xup xYf 72 (some (sInts 200))) 59 = some sModel from rfl) rfl ((congrFun (xup_s _ _ _) _).trans (zS_20 _ _ _ _ _ _ _ _)) d_Model_eRead_76 ?_
  refine X_bipush (v := 6) d_Model_eRead_79 rfl ?_
  refine X_icmp_ne (tgt := 99) d_Model_eRead_81 (by decide) (fun _ => ?_) (fun c_4 => absurd c_4 (by decide))
  refine X_aload_n d_Model_eRead_99 rfl rfl ?_
  refine X_getI (v := 40) fg_Model_86 (show (xup xYf 72 (some (sInts 200))) 59 = some sModel from rfl) rfl ((congrFun (xup_s _ _ _) _).trans (zS_20 _ _ _ _ _ _ _ _)) d_Model_eRead_100 ?_
  refine X_bipush (v := 45) d_Model_eRead_103 rfl ?_
  refine X_icmp_ne (tgt := 124) d_Model_eRead_105 (by decide) (fun _ => ?_) (fun c_5 => absurd c_5 (by decide))
  refine X_aload_n d_Model_eRead_124 rfl rfl ?_
  refine X_getI (v := 40) fg_Model_86 (show (xup xYf 72 (some (sInts 200))) 59 = some sModel from rfl) rfl ((congrFun (xup_s _ _ _) _).trans (zS_20 _ _ _ _ _ _ _ _)) d_Model_eRead_125 ?_
  refine X_bipush (v := 40) d_Model_eRead_128 rfl ?_
  refine X_icmp_ne (tgt := 148) d_Model_eRead_130 (by decide) (fun c_6 => absurd c_6 (by decide)) (fun _ => ?_)
  refine X_aload_n d_Model_eRead_133 rfl rfl ?_
  refine X_iconst (v := 0) d_Model_eRead_134 rfl ?_
  refine X_callV (v := .int 0) (rest := []) (c_Model_opensNo l G nn (by omega) I tc h8 htc (nI p1) (nI q) 40 v1 H K o cs 0 ho) lk_Model_opensOne ml_Model_123 (xm_obj (show (xup xYf 72 (some (sInts 200))) 59 = some sModel from rfl)) rfl rfl (Nat.le_of_ble_eq_true rfl) (xRok (d' := d - 1) (by omega) (by decide)) ⟨Nat.le_refl _, Nat.le_refl _⟩ d_Model_eRead_135 rfl ?_
  refine X_if_ne (tgt := 143) d_Model_eRead_138 (by decide) (fun c_7 => absurd c_7 (by decide)) (fun _ => ?_)
  refine X_iconst (v := 0) d_Model_eRead_141 rfl ?_
  rw [hr]
  exact X_zret rfl rfl rfl (xle_tr (xle_72 (J := xup (xup (xup I 64 (zC (200 * tc) cs (I 64))) 72 H) 59 (zS (I 59) (nI p1) (nI q) 40 v1 (nI K.length) o (nI cs.length))) (I := xup (xup I 64 (zC (200 * tc) cs (I 64))) 59 (zS (I 59) (nI p1) (nI q) 40 v1 (nI K.length) o (nI cs.length))) H (fun k hk => by simp only [xup_ap, if_neg hk])) (xle_of (congrArg (xm G xYf) (by simp only [zBl, hq, hp1, htk, hva])))) d_Model_eRead_142
theorem e_A9 (l : Launch) (G : xG) {d : Nat} (nn : Nat) (hd : 4 ≤ d) (I : xI) (tc : Nat) (h8 : I 59 8 = nI tc) (htc : tc < 6) (n : Nat) (h5 : I 59 5 = nI n) (hn : n ≤ 160) (hB : ∀ j, j < n → ¬ I 63 j < 0) (r : Bool × Nat × List Int32 × Int32 × List Int32) (p : Nat) (hp : p ≤ n) (q p1 : Nat) (hq : rRun bBlank (I 63) n 160 p = q) (hp1 : vNx (I 63) n q = p1) (y : Bool) (tk : Int32) (v1 : Int32) (K : List Int32) (o : Int32) (cs : List Int32) (hl : K.length + cs.length < 200) (b t v : Int32) (H : Nat → Int32) (hH : tSt H K) (htk : zTk (I 71) (I 63) n q = tk) (hva : zVa (I 71) (I 63) n q = v1) (hn1 : ¬ tk = 1) (hn2 : ¬ tk = 2) (hn6 : ¬ tk = 6) (hn45 : ¬ tk = 45) (hn40 : ¬ tk = 40) (hr : r = (false, p, K, o, cs)) : Qe l G d nn I tc n r p K o cs true y b t v H := by
  unfold Qe
  rw [show ([(0, .ref (xg G 59)), (1, .int (xb true)), (2, .int (xb y))] : List (Nat × Value)) = [(0, .ref (xg G 59)), (1, .int 1), (2, .int (xb y))] from rfl]
  refine X_aload_n d_Model_eRead_14 rfl rfl ?_
  refine X_callVv (rest := []) (by have q0 := c_Model_next l G nn (d := d - 1) (by omega) I n h5 hn (zC (200 * tc) cs (I 64)) H b t v (nI K.length) o (nI cs.length) hB p hp; rw [hq, hp1, htk, hva] at q0; exact q0) lk_Model_next ml_Model_119 (xm_obj (show (xup xYf 72 (some (sInts 200))) 59 = some sModel from rfl)) rfl rfl (Nat.le_of_ble_eq_true rfl) (xRok (d' := d - 1) (by omega) (by decide)) ⟨Nat.le_refl _, Nat.le_refl _⟩ d_Model_eRead_15 rfl ?_
  refine X_iload_n d_Model_eRead_18 rfl rfl ?_
  refine X_if_eq (tgt := 150) d_Model_eRead_19 (by decide) (fun c_1 => absurd c_1 (by decide)) (fun _ => ?_)
  refine X_aload_n d_Model_eRead_22 rfl rfl ?_
  refine X_getI (v := tk) fg_Model_86 (show (xup xYf 72 (some (sInts 200))) 59 = some sModel from rfl) rfl ((congrFun (xup_s _ _ _) _).trans (zS_20 _ _ _ _ _ _ _ _)) d_Model_eRead_23 ?_
  refine X_iconst (v := 1) d_Model_eRead_26 rfl ?_
  refine X_icmp_eq (tgt := 38) d_Model_eRead_27 (by decide) (fun c_2 => absurd c_2 hn1) (fun _ => ?_)
  refine X_aload_n d_Model_eRead_30 rfl rfl ?_
  refine X_getI (v := tk) fg_Model_86 (show (xup xYf 72 (some (sInts 200))) 59 = some sModel from rfl) rfl ((congrFun (xup_s _ _ _) _).trans (zS_20 _ _ _ _ _ _ _ _)) d_Model_eRead_31 ?_
  refine X_iconst (v := 2) d_Model_eRead_34 rfl ?_
  refine X_icmp_ne (tgt := 75) d_Model_eRead_35 (by decide) (fun _ => ?_) (fun c_3 => absurd c_3 hn2)
  refine X_aload_n d_Model_eRead_75 rfl rfl ?_
  refine X_getI (v := tk) fg_Model_86 (show (xup xYf 72 (some (sInts 200))) 59 = some sModel from rfl) rfl ((congrFun (xup_s _ _ _) _).trans (zS_20 _ _ _ _ _ _ _ _)) d_Model_eRead_76 ?_
  refine X_bipush (v := 6) d_Model_eRead_79 rfl ?_
  refine X_icmp_ne (tgt := 99) d_Model_eRead_81 (by decide) (fun _ => ?_) (fun c_4 => absurd c_4 hn6)
  refine X_aload_n d_Model_eRead_99 rfl rfl ?_
  refine X_getI (v := tk) fg_Model_86 (show (xup xYf 72 (some (sInts 200))) 59 = some sModel from rfl) rfl ((congrFun (xup_s _ _ _) _).trans (zS_20 _ _ _ _ _ _ _ _)) d_Model_eRead_100 ?_
  refine X_bipush (v := 45) d_Model_eRead_103 rfl ?_
  refine X_icmp_ne (tgt := 124) d_Model_eRead_105 (by decide) (fun _ => ?_) (fun c_5 => absurd c_5 hn45)
  refine X_aload_n d_Model_eRead_124 rfl rfl ?_
  refine X_getI (v := tk) fg_Model_86 (show (xup xYf 72 (some (sInts 200))) 59 = some sModel from rfl) rfl ((congrFun (xup_s _ _ _) _).trans (zS_20 _ _ _ _ _ _ _ _)) d_Model_eRead_125 ?_
  refine X_bipush (v := 40) d_Model_eRead_128 rfl ?_
  refine X_icmp_ne (tgt := 148) d_Model_eRead_130 (by decide) (fun _ => ?_) (fun c_6 => absurd c_6 hn40)
  refine X_iconst (v := 0) d_Model_eRead_148 rfl ?_
  rw [hr]
  exact X_zret rfl rfl rfl (xle_tr (xle_72 (J := xup (xup (xup I 64 (zC (200 * tc) cs (I 64))) 72 H) 59 (zS (I 59) (nI p1) (nI q) tk v1 (nI K.length) o (nI cs.length))) (I := xup (xup I 64 (zC (200 * tc) cs (I 64))) 59 (zS (I 59) (nI p1) (nI q) tk v1 (nI K.length) o (nI cs.length))) H (fun k hk => by simp only [xup_ap, if_neg hk])) (xle_of (congrArg (xm G xYf) (by simp only [zBl, hq, hp1, htk, hva])))) d_Model_eRead_149
theorem e_A8 (l : Launch) (G : xG) {d : Nat} (nn : Nat) (hd : 4 ≤ d) (I : xI) (tc : Nat) (h8 : I 59 8 = nI tc) (htc : tc < 6) (n : Nat) (h5 : I 59 5 = nI n) (hn : n ≤ 160) (hB : ∀ j, j < n → ¬ I 63 j < 0) (r : Bool × Nat × List Int32 × Int32 × List Int32) (p : Nat) (hp : p ≤ n) (q p1 : Nat) (hq : rRun bBlank (I 63) n 160 p = q) (hp1 : vNx (I 63) n q = p1) (v1 : Int32) (K : List Int32) (o : Int32) (cs : List Int32) (hl : K.length + cs.length < 200) (b t v : Int32) (H : Nat → Int32) (hH : tSt H K) (htk : zTk (I 71) (I 63) n q = 6) (hva : zVa (I 71) (I 63) n q = v1)  (hr : r = (false, p, K, o, cs)) : Qe l G d nn I tc n r p K o cs true false b t v H := by
  unfold Qe
  rw [show ([(0, .ref (xg G 59)), (1, .int (xb true)), (2, .int (xb false))] : List (Nat × Value)) = [(0, .ref (xg G 59)), (1, .int 1), (2, .int 0)] from rfl]
  refine X_aload_n d_Model_eRead_14 rfl rfl ?_
  refine X_callVv (rest := []) (by have q0 := c_Model_next l G nn (d := d - 1) (by omega) I n h5 hn (zC (200 * tc) cs (I 64)) H b t v (nI K.length) o (nI cs.length) hB p hp; rw [hq, hp1, htk, hva] at q0; exact q0) lk_Model_next ml_Model_119 (xm_obj (show (xup xYf 72 (some (sInts 200))) 59 = some sModel from rfl)) rfl rfl (Nat.le_of_ble_eq_true rfl) (xRok (d' := d - 1) (by omega) (by decide)) ⟨Nat.le_refl _, Nat.le_refl _⟩ d_Model_eRead_15 rfl ?_
  refine X_iload_n d_Model_eRead_18 rfl rfl ?_
  refine X_if_eq (tgt := 150) d_Model_eRead_19 (by decide) (fun c_1 => absurd c_1 (by decide)) (fun _ => ?_)
  refine X_aload_n d_Model_eRead_22 rfl rfl ?_
  refine X_getI (v := 6) fg_Model_86 (show (xup xYf 72 (some (sInts 200))) 59 = some sModel from rfl) rfl ((congrFun (xup_s _ _ _) _).trans (zS_20 _ _ _ _ _ _ _ _)) d_Model_eRead_23 ?_
  refine X_iconst (v := 1) d_Model_eRead_26 rfl ?_
  refine X_icmp_eq (tgt := 38) d_Model_eRead_27 (by decide) (fun c_2 => absurd c_2 (by decide)) (fun _ => ?_)
  refine X_aload_n d_Model_eRead_30 rfl rfl ?_
  refine X_getI (v := 6) fg_Model_86 (show (xup xYf 72 (some (sInts 200))) 59 = some sModel from rfl) rfl ((congrFun (xup_s _ _ _) _).trans (zS_20 _ _ _ _ _ _ _ _)) d_Model_eRead_31 ?_
  refine X_iconst (v := 2) d_Model_eRead_34 rfl ?_
  refine X_icmp_ne (tgt := 75) d_Model_eRead_35 (by decide) (fun _ => ?_) (fun c_3 => absurd c_3 (by decide))
  refine X_aload_n d_Model_eRead_75 rfl rfl ?_
  refine X_getI (v := 6) fg_Model_86 (show (xup xYf 72 (some (sInts 200))) 59 = some sModel from rfl) rfl ((congrFun (xup_s _ _ _) _).trans (zS_20 _ _ _ _ _ _ _ _)) d_Model_eRead_76 ?_
  refine X_bipush (v := 6) d_Model_eRead_79 rfl ?_
  refine X_icmp_ne (tgt := 99) d_Model_eRead_81 (by decide) (fun c_4 => absurd c_4 (by decide)) (fun _ => ?_)
  refine X_iload_n d_Model_eRead_84 rfl rfl ?_
  refine X_if_eq (tgt := 99) d_Model_eRead_85 (by decide) (fun _ => ?_) (fun c_5 => absurd c_5 (by decide))
  refine X_aload_n d_Model_eRead_99 rfl rfl ?_
  refine X_getI (v := 6) fg_Model_86 (show (xup xYf 72 (some (sInts 200))) 59 = some sModel from rfl) rfl ((congrFun (xup_s _ _ _) _).trans (zS_20 _ _ _ _ _ _ _ _)) d_Model_eRead_100 ?_
  refine X_bipush (v := 45) d_Model_eRead_103 rfl ?_
  refine X_icmp_ne (tgt := 124) d_Model_eRead_105 (by decide) (fun _ => ?_) (fun c_6 => absurd c_6 (by decide))
  refine X_aload_n d_Model_eRead_124 rfl rfl ?_
  refine X_getI (v := 6) fg_Model_86 (show (xup xYf 72 (some (sInts 200))) 59 = some sModel from rfl) rfl ((congrFun (xup_s _ _ _) _).trans (zS_20 _ _ _ _ _ _ _ _)) d_Model_eRead_125 ?_
  refine X_bipush (v := 40) d_Model_eRead_128 rfl ?_
  refine X_icmp_ne (tgt := 148) d_Model_eRead_130 (by decide) (fun _ => ?_) (fun c_7 => absurd c_7 (by decide))
  refine X_iconst (v := 0) d_Model_eRead_148 rfl ?_
  rw [hr]
  exact X_zret rfl rfl rfl (xle_tr (xle_72 (J := xup (xup (xup I 64 (zC (200 * tc) cs (I 64))) 72 H) 59 (zS (I 59) (nI p1) (nI q) 6 v1 (nI K.length) o (nI cs.length))) (I := xup (xup I 64 (zC (200 * tc) cs (I 64))) 59 (zS (I 59) (nI p1) (nI q) 6 v1 (nI K.length) o (nI cs.length))) H (fun k hk => by simp only [xup_ap, if_neg hk])) (xle_of (congrArg (xm G xYf) (by simp only [zBl, hq, hp1, htk, hva])))) d_Model_eRead_149
theorem e_B1 (l : Launch) (G : xG) {d : Nat} (nn : Nat) (hd : 4 ≤ d) (I : xI) (tc : Nat) (h8 : I 59 8 = nI tc) (htc : tc < 6) (n : Nat) (h5 : I 59 5 = nI n) (hn : n ≤ 160) (hB : ∀ j, j < n → ¬ I 63 j < 0) (r : Bool × Nat × List Int32 × Int32 × List Int32) (p : Nat) (hp : p ≤ n) (q p1 : Nat) (hq : rRun bBlank (I 63) n 160 p = q) (hp1 : vNx (I 63) n q = p1) (y : Bool) (v1 : Int32) (K : List Int32) (o : Int32) (cs : List Int32) (hl : K.length + cs.length < 200) (b t v : Int32) (H : Nat → Int32) (hH : tSt H K) (htk : zTk (I 71) (I 63) n q = 59) (hva : zVa (I 71) (I 63) n q = v1) (hU : (zUn 1 K o cs).1 = []) (hr : r = (true, p, (zUn 1 K o cs).1, (zUn 1 K o cs).2.1, (zUn 1 K o cs).2.2)) : Qe l G d nn I tc n r p K o cs false y b t v H := by
  unfold Qe
  rw [show ([(0, .ref (xg G 59)), (1, .int (xb false)), (2, .int (xb y))] : List (Nat × Value)) = [(0, .ref (xg G 59)), (1, .int 0), (2, .int (xb y))] from rfl]
  refine X_aload_n d_Model_eRead_14 rfl rfl ?_
  refine X_callVv (rest := []) (by have q0 := c_Model_next l G nn (d := d - 1) (by omega) I n h5 hn (zC (200 * tc) cs (I 64)) H b t v (nI K.length) o (nI cs.length) hB p hp; rw [hq, hp1, htk, hva] at q0; exact q0) lk_Model_next ml_Model_119 (xm_obj (show (xup xYf 72 (some (sInts 200))) 59 = some sModel from rfl)) rfl rfl (Nat.le_of_ble_eq_true rfl) (xRok (d' := d - 1) (by omega) (by decide)) ⟨Nat.le_refl _, Nat.le_refl _⟩ d_Model_eRead_15 rfl ?_
  refine X_iload_n d_Model_eRead_18 rfl rfl ?_
  refine X_if_eq (tgt := 150) d_Model_eRead_19 (by decide) (fun _ => ?_) (fun c_1 => absurd c_1 (by decide))
  refine X_aload_n d_Model_eRead_150 rfl rfl ?_
  refine X_getI (v := 59) fg_Model_86 (show (xup xYf 72 (some (sInts 200))) 59 = some sModel from rfl) rfl ((congrFun (xup_s _ _ _) _).trans (zS_20 _ _ _ _ _ _ _ _)) d_Model_eRead_151 ?_
  refine X_bipush (v := 59) d_Model_eRead_154 rfl ?_
  refine X_icmp_ne (tgt := 177) d_Model_eRead_156 (by decide) (fun c_2 => absurd c_2 (by decide)) (fun _ => ?_)
  refine X_aload_n d_Model_eRead_159 rfl rfl ?_
  refine X_iconst (v := 1) d_Model_eRead_160 rfl ?_
  refine X_callVv (rest := []) (c_Model_unwinds l G nn (by omega) I tc h8 htc (nI p1) (nI q) 59 v1 H K o cs 1 hH (by first | omega | (simp; omega))) lk_Model_unwinds ml_Model_116 (xm_obj (show (xup xYf 72 (some (sInts 200))) 59 = some sModel from rfl)) rfl rfl (Nat.le_of_ble_eq_true rfl) (xRok (d' := d - 1) (by omega) (by decide)) ⟨Nat.le_refl _, Nat.le_refl _⟩ d_Model_eRead_161 rfl ?_
  refine X_aload_n d_Model_eRead_164 rfl rfl ?_
  refine X_getI (v := nI (zUn 1 K o cs).1.length) fg_Model_99 (show (xup xYf 72 (some (sInts 200))) 59 = some sModel from rfl) rfl ((congrFun (xup_s _ _ _) _).trans (zS_24 _ _ _ _ _ _ _ _)) d_Model_eRead_165 ?_
  refine X_if_ne (tgt := 175) d_Model_eRead_168 (by decide) (fun c_3 => absurd c_3 (fun z => z (by rw [hU]; rfl))) (fun _ => ?_)
  refine X_iconst (v := 1) d_Model_eRead_171 rfl ?_
  refine X_goto (tgt := 176) d_Model_eRead_172 (by decide) ?_
  rw [hr]
  exact X_zret rfl rfl rfl (xle_tr (xle_72 (J := xup (xup (xup I 64 (zC (200 * tc) (zUn 1 K o cs).2.2 (I 64))) 72 H) 59 (zS (I 59) (nI p1) (nI q) 59 v1 (nI (zUn 1 K o cs).1.length) (zUn 1 K o cs).2.1 (nI (zUn 1 K o cs).2.2.length))) (I := xup (xup I 64 (zC (200 * tc) (zUn 1 K o cs).2.2 (I 64))) 59 (zS (I 59) (nI p1) (nI q) 59 v1 (nI (zUn 1 K o cs).1.length) (zUn 1 K o cs).2.1 (nI (zUn 1 K o cs).2.2.length))) H (fun k hk => by simp only [xup_ap, if_neg hk])) (xle_of (congrArg (xm G xYf) (by simp only [zBl, hq, hp1, htk, hva])))) d_Model_eRead_176
theorem e_B2 (l : Launch) (G : xG) {d : Nat} (nn : Nat) (hd : 4 ≤ d) (I : xI) (tc : Nat) (h8 : I 59 8 = nI tc) (htc : tc < 6) (n : Nat) (h5 : I 59 5 = nI n) (hn : n ≤ 160) (hB : ∀ j, j < n → ¬ I 63 j < 0) (r : Bool × Nat × List Int32 × Int32 × List Int32) (p : Nat) (hp : p ≤ n) (q p1 : Nat) (hq : rRun bBlank (I 63) n 160 p = q) (hp1 : vNx (I 63) n q = p1) (y : Bool) (v1 : Int32) (K : List Int32) (o : Int32) (cs : List Int32) (hl : K.length + cs.length < 200) (b t v : Int32) (H : Nat → Int32) (hH : tSt H K) (htk : zTk (I 71) (I 63) n q = 59) (hva : zVa (I 71) (I 63) n q = v1) (hU : ¬ (zUn 1 K o cs).1.length = 0) (hU2 : (zUn 1 K o cs).1.length < 1000) (hr : r = (false, p, (zUn 1 K o cs).1, (zUn 1 K o cs).2.1, (zUn 1 K o cs).2.2)) : Qe l G d nn I tc n r p K o cs false y b t v H := by
  unfold Qe
  rw [show ([(0, .ref (xg G 59)), (1, .int (xb false)), (2, .int (xb y))] : List (Nat × Value)) = [(0, .ref (xg G 59)), (1, .int 0), (2, .int (xb y))] from rfl]
  refine X_aload_n d_Model_eRead_14 rfl rfl ?_
  refine X_callVv (rest := []) (by have q0 := c_Model_next l G nn (d := d - 1) (by omega) I n h5 hn (zC (200 * tc) cs (I 64)) H b t v (nI K.length) o (nI cs.length) hB p hp; rw [hq, hp1, htk, hva] at q0; exact q0) lk_Model_next ml_Model_119 (xm_obj (show (xup xYf 72 (some (sInts 200))) 59 = some sModel from rfl)) rfl rfl (Nat.le_of_ble_eq_true rfl) (xRok (d' := d - 1) (by omega) (by decide)) ⟨Nat.le_refl _, Nat.le_refl _⟩ d_Model_eRead_15 rfl ?_
  refine X_iload_n d_Model_eRead_18 rfl rfl ?_
  refine X_if_eq (tgt := 150) d_Model_eRead_19 (by decide) (fun _ => ?_) (fun c_1 => absurd c_1 (by decide))
  refine X_aload_n d_Model_eRead_150 rfl rfl ?_
  refine X_getI (v := 59) fg_Model_86 (show (xup xYf 72 (some (sInts 200))) 59 = some sModel from rfl) rfl ((congrFun (xup_s _ _ _) _).trans (zS_20 _ _ _ _ _ _ _ _)) d_Model_eRead_151 ?_
  refine X_bipush (v := 59) d_Model_eRead_154 rfl ?_
  refine X_icmp_ne (tgt := 177) d_Model_eRead_156 (by decide) (fun c_2 => absurd c_2 (by decide)) (fun _ => ?_)
  refine X_aload_n d_Model_eRead_159 rfl rfl ?_
  refine X_iconst (v := 1) d_Model_eRead_160 rfl ?_
  refine X_callVv (rest := []) (c_Model_unwinds l G nn (by omega) I tc h8 htc (nI p1) (nI q) 59 v1 H K o cs 1 hH (by first | omega | (simp; omega))) lk_Model_unwinds ml_Model_116 (xm_obj (show (xup xYf 72 (some (sInts 200))) 59 = some sModel from rfl)) rfl rfl (Nat.le_of_ble_eq_true rfl) (xRok (d' := d - 1) (by omega) (by decide)) ⟨Nat.le_refl _, Nat.le_refl _⟩ d_Model_eRead_161 rfl ?_
  refine X_aload_n d_Model_eRead_164 rfl rfl ?_
  refine X_getI (v := nI (zUn 1 K o cs).1.length) fg_Model_99 (show (xup xYf 72 (some (sInts 200))) 59 = some sModel from rfl) rfl ((congrFun (xup_s _ _ _) _).trans (zS_24 _ _ _ _ _ _ _ _)) d_Model_eRead_165 ?_
  refine X_if_ne (tgt := 175) d_Model_eRead_168 (by decide) (fun _ => ?_) (fun c_3 => absurd c_3 (fun z => hU ((nI_eq (a := (zUn 1 K o cs).1.length) (b := 0) (by omega) (by decide)).mp z)))
  refine X_iconst (v := 0) d_Model_eRead_175 rfl ?_
  rw [hr]
  exact X_zret rfl rfl rfl (xle_tr (xle_72 (J := xup (xup (xup I 64 (zC (200 * tc) (zUn 1 K o cs).2.2 (I 64))) 72 H) 59 (zS (I 59) (nI p1) (nI q) 59 v1 (nI (zUn 1 K o cs).1.length) (zUn 1 K o cs).2.1 (nI (zUn 1 K o cs).2.2.length))) (I := xup (xup I 64 (zC (200 * tc) (zUn 1 K o cs).2.2 (I 64))) 59 (zS (I 59) (nI p1) (nI q) 59 v1 (nI (zUn 1 K o cs).1.length) (zUn 1 K o cs).2.1 (nI (zUn 1 K o cs).2.2.length))) H (fun k hk => by simp only [xup_ap, if_neg hk])) (xle_of (congrArg (xm G xYf) (by simp only [zBl, hq, hp1, htk, hva])))) d_Model_eRead_176
theorem e_B3 (l : Launch) (G : xG) {d : Nat} (nn : Nat) (hd : 4 ≤ d) (I : xI) (tc : Nat) (h8 : I 59 8 = nI tc) (htc : tc < 6) (n : Nat) (h5 : I 59 5 = nI n) (hn : n ≤ 160) (hB : ∀ j, j < n → ¬ I 63 j < 0) (r : Bool × Nat × List Int32 × Int32 × List Int32) (p : Nat) (hp : p ≤ n) (q p1 : Nat) (hq : rRun bBlank (I 63) n 160 p = q) (hp1 : vNx (I 63) n q = p1) (y : Bool) (v1 : Int32) (K : List Int32) (o : Int32) (cs : List Int32) (hl : K.length + cs.length < 200) (b t v : Int32) (H : Nat → Int32) (hH : tSt H K) (htk : zTk (I 71) (I 63) n q = 41) (hva : zVa (I 71) (I 63) n q = v1) (o1 : Int32) (cs1 : List Int32) (hU : zUn 1 K o cs = ([], o1, cs1)) (hr : r = (false, p, [], o1, cs1)) : Qe l G d nn I tc n r p K o cs false y b t v H := by
  unfold Qe
  rw [show ([(0, .ref (xg G 59)), (1, .int (xb false)), (2, .int (xb y))] : List (Nat × Value)) = [(0, .ref (xg G 59)), (1, .int 0), (2, .int (xb y))] from rfl]
  refine X_aload_n d_Model_eRead_14 rfl rfl ?_
  refine X_callVv (rest := []) (by have q0 := c_Model_next l G nn (d := d - 1) (by omega) I n h5 hn (zC (200 * tc) cs (I 64)) H b t v (nI K.length) o (nI cs.length) hB p hp; rw [hq, hp1, htk, hva] at q0; exact q0) lk_Model_next ml_Model_119 (xm_obj (show (xup xYf 72 (some (sInts 200))) 59 = some sModel from rfl)) rfl rfl (Nat.le_of_ble_eq_true rfl) (xRok (d' := d - 1) (by omega) (by decide)) ⟨Nat.le_refl _, Nat.le_refl _⟩ d_Model_eRead_15 rfl ?_
  refine X_iload_n d_Model_eRead_18 rfl rfl ?_
  refine X_if_eq (tgt := 150) d_Model_eRead_19 (by decide) (fun _ => ?_) (fun c_1 => absurd c_1 (by decide))
  refine X_aload_n d_Model_eRead_150 rfl rfl ?_
  refine X_getI (v := 41) fg_Model_86 (show (xup xYf 72 (some (sInts 200))) 59 = some sModel from rfl) rfl ((congrFun (xup_s _ _ _) _).trans (zS_20 _ _ _ _ _ _ _ _)) d_Model_eRead_151 ?_
  refine X_bipush (v := 59) d_Model_eRead_154 rfl ?_
  refine X_icmp_ne (tgt := 177) d_Model_eRead_156 (by decide) (fun _ => ?_) (fun c_2 => absurd c_2 (by decide))
  refine X_aload_n d_Model_eRead_177 rfl rfl ?_
  refine X_getI (v := 41) fg_Model_86 (show (xup xYf 72 (some (sInts 200))) 59 = some sModel from rfl) rfl ((congrFun (xup_s _ _ _) _).trans (zS_20 _ _ _ _ _ _ _ _)) d_Model_eRead_178 ?_
  refine X_bipush (v := 41) d_Model_eRead_181 rfl ?_
  refine X_icmp_ne (tgt := 229) d_Model_eRead_183 (by decide) (fun c_3 => absurd c_3 (by decide)) (fun _ => ?_)
  refine X_aload_n d_Model_eRead_186 rfl rfl ?_
  refine X_iconst (v := 1) d_Model_eRead_187 rfl ?_
  refine X_callVv (rest := []) (by have q0 := c_Model_unwinds l G nn (d := d - 1) (by omega) I tc h8 htc (nI p1) (nI q) 41 v1 H K o cs 1 hH (by first | omega | (simp; omega)); rw [hU] at q0; exact q0) lk_Model_unwinds ml_Model_116 (xm_obj (show (xup xYf 72 (some (sInts 200))) 59 = some sModel from rfl)) rfl rfl (Nat.le_of_ble_eq_true rfl) (xRok (d' := d - 1) (by omega) (by decide)) ⟨Nat.le_refl _, Nat.le_refl _⟩ d_Model_eRead_188 rfl ?_
  refine X_aload_n d_Model_eRead_191 rfl rfl ?_
  refine X_getI (v := nI ([] : List Int32).length) fg_Model_99 (show (xup xYf 72 (some (sInts 200))) 59 = some sModel from rfl) rfl ((congrFun (xup_s _ _ _) _).trans (zS_24 _ _ _ _ _ _ _ _)) d_Model_eRead_192 ?_
  refine X_if_ne (tgt := 200) d_Model_eRead_195 (by decide) (fun c_4 => absurd c_4 (fun z => z (by rfl))) (fun _ => ?_)
  refine X_iconst (v := 0) d_Model_eRead_198 rfl ?_
  rw [hr]
  exact X_zret rfl rfl rfl (xle_tr (xle_72 (J := xup (xup (xup I 64 (zC (200 * tc) cs1 (I 64))) 72 H) 59 (zS (I 59) (nI p1) (nI q) 41 v1 (nI ([] : List Int32).length) o1 (nI cs1.length))) (I := xup (xup I 64 (zC (200 * tc) cs1 (I 64))) 59 (zS (I 59) (nI p1) (nI q) 41 v1 (nI ([] : List Int32).length) o1 (nI cs1.length))) H (fun k hk => by simp only [xup_ap, if_neg hk])) (xle_of (congrArg (xm G xYf) (by simp only [zBl, hq, hp1, htk, hva])))) d_Model_eRead_199
theorem e_B4 (l : Launch) (G : xG) {d : Nat} (nn : Nat) (hd : 4 ≤ d) (I : xI) (tc : Nat) (h8 : I 59 8 = nI tc) (htc : tc < 6) (n : Nat) (h5 : I 59 5 = nI n) (hn : n ≤ 160) (hB : ∀ j, j < n → ¬ I 63 j < 0) (r : Bool × Nat × List Int32 × Int32 × List Int32) (p : Nat) (hp : p ≤ n) (q p1 : Nat) (hq : rRun bBlank (I 63) n 160 p = q) (hp1 : vNx (I 63) n q = p1) (y : Bool) (v1 : Int32) (K : List Int32) (o : Int32) (cs : List Int32) (hl : K.length + cs.length < 200) (b t v : Int32) (H : Nat → Int32) (hH : tSt H K) (htk : zTk (I 71) (I 63) n q = 41) (hva : zVa (I 71) (I 63) n q = v1) (s1 : Int32) (K1 : List Int32) (o1 : Int32) (cs1 : List Int32) (hU : zUn 1 K o cs = (s1 :: K1, o1, cs1)) (hH1 : tSt H K1) (hl1 : K1.length + cs1.length < 200) (ih : ∀ b t v H, tSt H ((zUn 7 K1 (o1 - 1) cs1).1) → Qe l G d nn I tc n r p1 ((zUn 7 K1 (o1 - 1) cs1).1) ((zUn 7 K1 (o1 - 1) cs1).2.1) ((zUn 7 K1 (o1 - 1) cs1).2.2) false y b t v H) : Qe l G d nn I tc n r p K o cs false y b t v H := by
  unfold Qe
  rw [show ([(0, .ref (xg G 59)), (1, .int (xb false)), (2, .int (xb y))] : List (Nat × Value)) = [(0, .ref (xg G 59)), (1, .int 0), (2, .int (xb y))] from rfl]
  refine X_aload_n d_Model_eRead_14 rfl rfl ?_
  refine X_callVv (rest := []) (by have q0 := c_Model_next l G nn (d := d - 1) (by omega) I n h5 hn (zC (200 * tc) cs (I 64)) H b t v (nI K.length) o (nI cs.length) hB p hp; rw [hq, hp1, htk, hva] at q0; exact q0) lk_Model_next ml_Model_119 (xm_obj (show (xup xYf 72 (some (sInts 200))) 59 = some sModel from rfl)) rfl rfl (Nat.le_of_ble_eq_true rfl) (xRok (d' := d - 1) (by omega) (by decide)) ⟨Nat.le_refl _, Nat.le_refl _⟩ d_Model_eRead_15 rfl ?_
  refine X_iload_n d_Model_eRead_18 rfl rfl ?_
  refine X_if_eq (tgt := 150) d_Model_eRead_19 (by decide) (fun _ => ?_) (fun c_1 => absurd c_1 (by decide))
  refine X_aload_n d_Model_eRead_150 rfl rfl ?_
  refine X_getI (v := 41) fg_Model_86 (show (xup xYf 72 (some (sInts 200))) 59 = some sModel from rfl) rfl ((congrFun (xup_s _ _ _) _).trans (zS_20 _ _ _ _ _ _ _ _)) d_Model_eRead_151 ?_
  refine X_bipush (v := 59) d_Model_eRead_154 rfl ?_
  refine X_icmp_ne (tgt := 177) d_Model_eRead_156 (by decide) (fun _ => ?_) (fun c_2 => absurd c_2 (by decide))
  refine X_aload_n d_Model_eRead_177 rfl rfl ?_
  refine X_getI (v := 41) fg_Model_86 (show (xup xYf 72 (some (sInts 200))) 59 = some sModel from rfl) rfl ((congrFun (xup_s _ _ _) _).trans (zS_20 _ _ _ _ _ _ _ _)) d_Model_eRead_178 ?_
  refine X_bipush (v := 41) d_Model_eRead_181 rfl ?_
  refine X_icmp_ne (tgt := 229) d_Model_eRead_183 (by decide) (fun c_3 => absurd c_3 (by decide)) (fun _ => ?_)
  refine X_aload_n d_Model_eRead_186 rfl rfl ?_
  refine X_iconst (v := 1) d_Model_eRead_187 rfl ?_
  refine X_callVv (rest := []) (by have q0 := c_Model_unwinds l G nn (d := d - 1) (by omega) I tc h8 htc (nI p1) (nI q) 41 v1 H K o cs 1 hH (by first | omega | (simp; omega)); rw [hU] at q0; exact q0) lk_Model_unwinds ml_Model_116 (xm_obj (show (xup xYf 72 (some (sInts 200))) 59 = some sModel from rfl)) rfl rfl (Nat.le_of_ble_eq_true rfl) (xRok (d' := d - 1) (by omega) (by decide)) ⟨Nat.le_refl _, Nat.le_refl _⟩ d_Model_eRead_188 rfl ?_
  refine X_aload_n d_Model_eRead_191 rfl rfl ?_
  refine X_getI (v := nI (s1 :: K1).length) fg_Model_99 (show (xup xYf 72 (some (sInts 200))) 59 = some sModel from rfl) rfl ((congrFun (xup_s _ _ _) _).trans (zS_24 _ _ _ _ _ _ _ _)) d_Model_eRead_192 ?_
  refine X_if_ne (tgt := 200) d_Model_eRead_195 (by decide) (fun _ => ?_) (fun c_4 => absurd c_4 (fun z => absurd ((nI_eq (a := K1.length + 1) (b := 0) (by omega) (by decide)).mp z) (by omega)))
  refine X_aload_n d_Model_eRead_200 rfl rfl ?_
  refine X_dup d_Model_eRead_201 rfl ?_
  refine X_getI (v := nI (s1 :: K1).length) fg_Model_99 (show (xup xYf 72 (some (sInts 200))) 59 = some sModel from rfl) rfl ((congrFun (xup_s _ _ _) _).trans (zS_24 _ _ _ _ _ _ _ _)) d_Model_eRead_202 ?_
  refine X_iconst (v := 1) d_Model_eRead_205 rfl ?_
  refine X_isub d_Model_eRead_206 ?_
  rw [show nI (s1 :: K1).length - 1 = nI K1.length from nI_pred _]
  refine X_putI fp_Model_99 (show (xup xYf 72 (some (sInts 200))) 59 = some sModel from rfl) rfl d_Model_eRead_207 ?_
  rw [xw_rec]
  rw [zSs_24]
  refine X_aload_n d_Model_eRead_210 rfl rfl ?_
  refine X_dup d_Model_eRead_211 rfl ?_
  refine X_getI (v := o1) fg_Model_106 (show (xup xYf 72 (some (sInts 200))) 59 = some sModel from rfl) rfl ((congrFun (xup_s _ _ _) _).trans (zS_25 _ _ _ _ _ _ _ _)) d_Model_eRead_212 ?_
  refine X_iconst (v := 1) d_Model_eRead_215 rfl ?_
  refine X_isub d_Model_eRead_216 ?_
  refine X_putI fp_Model_106 (show (xup xYf 72 (some (sInts 200))) 59 = some sModel from rfl) rfl d_Model_eRead_217 ?_
  rw [xw_rec]
  rw [zSs_25]
  refine X_aload_n d_Model_eRead_220 rfl rfl ?_
  refine X_bipush (v := 7) d_Model_eRead_221 rfl ?_
  refine X_callVv (rest := []) (c_Model_unwinds l G nn (by omega) I tc h8 htc (nI p1) (nI q) 41 v1 H K1 (o1 - 1) cs1 7 hH1 (by first | omega | (simp; omega))) lk_Model_unwinds ml_Model_116 (xm_obj (show (xup xYf 72 (some (sInts 200))) 59 = some sModel from rfl)) rfl rfl (Nat.le_of_ble_eq_true rfl) (xRok (d' := d - 1) (by omega) (by decide)) ⟨Nat.le_refl _, Nat.le_refl _⟩ d_Model_eRead_223 rfl ?_
  refine X_goto (tgt := 14) d_Model_eRead_226 (by decide) ?_
  have key := ih (nI q) 41 v1 H (zUn_tSt _ hH1 _ _)
  unfold Qe at key
  exact key
theorem e_B5 (l : Launch) (G : xG) {d : Nat} (nn : Nat) (hd : 4 ≤ d) (I : xI) (tc : Nat) (h8 : I 59 8 = nI tc) (htc : tc < 6) (n : Nat) (h5 : I 59 5 = nI n) (hn : n ≤ 160) (hB : ∀ j, j < n → ¬ I 63 j < 0) (r : Bool × Nat × List Int32 × Int32 × List Int32) (p : Nat) (hp : p ≤ n) (q p1 : Nat) (hq : rRun bBlank (I 63) n 160 p = q) (hp1 : vNx (I 63) n q = p1) (y : Bool) (tk : Int32) (v1 : Int32) (K : List Int32) (o : Int32) (cs : List Int32) (hl : K.length + cs.length < 200) (b t v : Int32) (H : Nat → Int32) (hH : tSt H K) (htk : zTk (I 71) (I 63) n q = tk) (hva : zVa (I 71) (I 63) n q = v1) (hn59 : ¬ tk = 59) (hn41 : ¬ tk = 41) (hs : zSg tk = -1) (hr : r = (false, p, K, o, cs)) : Qe l G d nn I tc n r p K o cs false y b t v H := by
  unfold Qe
  rw [show ([(0, .ref (xg G 59)), (1, .int (xb false)), (2, .int (xb y))] : List (Nat × Value)) = [(0, .ref (xg G 59)), (1, .int 0), (2, .int (xb y))] from rfl]
  refine X_aload_n d_Model_eRead_14 rfl rfl ?_
  refine X_callVv (rest := []) (by have q0 := c_Model_next l G nn (d := d - 1) (by omega) I n h5 hn (zC (200 * tc) cs (I 64)) H b t v (nI K.length) o (nI cs.length) hB p hp; rw [hq, hp1, htk, hva] at q0; exact q0) lk_Model_next ml_Model_119 (xm_obj (show (xup xYf 72 (some (sInts 200))) 59 = some sModel from rfl)) rfl rfl (Nat.le_of_ble_eq_true rfl) (xRok (d' := d - 1) (by omega) (by decide)) ⟨Nat.le_refl _, Nat.le_refl _⟩ d_Model_eRead_15 rfl ?_
  refine X_iload_n d_Model_eRead_18 rfl rfl ?_
  refine X_if_eq (tgt := 150) d_Model_eRead_19 (by decide) (fun _ => ?_) (fun c_1 => absurd c_1 (by decide))
  refine X_aload_n d_Model_eRead_150 rfl rfl ?_
  refine X_getI (v := tk) fg_Model_86 (show (xup xYf 72 (some (sInts 200))) 59 = some sModel from rfl) rfl ((congrFun (xup_s _ _ _) _).trans (zS_20 _ _ _ _ _ _ _ _)) d_Model_eRead_151 ?_
  refine X_bipush (v := 59) d_Model_eRead_154 rfl ?_
  refine X_icmp_ne (tgt := 177) d_Model_eRead_156 (by decide) (fun _ => ?_) (fun c_2 => absurd c_2 hn59)
  refine X_aload_n d_Model_eRead_177 rfl rfl ?_
  refine X_getI (v := tk) fg_Model_86 (show (xup xYf 72 (some (sInts 200))) 59 = some sModel from rfl) rfl ((congrFun (xup_s _ _ _) _).trans (zS_20 _ _ _ _ _ _ _ _)) d_Model_eRead_178 ?_
  refine X_bipush (v := 41) d_Model_eRead_181 rfl ?_
  refine X_icmp_ne (tgt := 229) d_Model_eRead_183 (by decide) (fun _ => ?_) (fun c_3 => absurd c_3 hn41)
  refine X_aload_n d_Model_eRead_229 rfl rfl ?_
  refine X_callV (v := .int (zSg tk)) (rest := []) (c_Model_signOf l G nn (by omega) I tc h8 htc (nI p1) (nI q) tk v1 H K o cs ) lk_Model_signOf ml_Model_126 (xm_obj (show (xup xYf 72 (some (sInts 200))) 59 = some sModel from rfl)) rfl rfl (Nat.le_of_ble_eq_true rfl) (xRok (d' := d - 1) (by omega) (by decide)) ⟨Nat.le_refl _, Nat.le_refl _⟩ d_Model_eRead_230 rfl ?_
  refine X_istore_n d_Model_eRead_233 rfl (by decide) [1, 2, 3, 0] (L' := [(0, .ref (xg G 59)), (1, .int 0), (2, .int (xb y)), (3, .int (zSg tk))]) rfl ?_
  refine X_iload_n d_Model_eRead_234 rfl rfl ?_
  refine X_iconst (v := -1) d_Model_eRead_235 rfl ?_
  refine X_icmp_eq (tgt := 247) d_Model_eRead_236 (by decide) (fun _ => ?_) (fun c_4 => absurd c_4 (not_not_intro hs))
  refine X_iconst (v := 0) d_Model_eRead_247 rfl ?_
  rw [hr]
  exact X_zret rfl rfl rfl (xle_tr (xle_72 (J := xup (xup (xup I 64 (zC (200 * tc) cs (I 64))) 72 H) 59 (zS (I 59) (nI p1) (nI q) tk v1 (nI K.length) o (nI cs.length))) (I := xup (xup I 64 (zC (200 * tc) cs (I 64))) 59 (zS (I 59) (nI p1) (nI q) tk v1 (nI K.length) o (nI cs.length))) H (fun k hk => by simp only [xup_ap, if_neg hk])) (xle_of (congrArg (xm G xYf) (by simp only [zBl, hq, hp1, htk, hva])))) d_Model_eRead_248
theorem e_B7a (l : Launch) (G : xG) {d : Nat} (nn : Nat) (hd : 4 ≤ d) (I : xI) (tc : Nat) (h8 : I 59 8 = nI tc) (htc : tc < 6) (n : Nat) (h5 : I 59 5 = nI n) (hn : n ≤ 160) (hB : ∀ j, j < n → ¬ I 63 j < 0) (r : Bool × Nat × List Int32 × Int32 × List Int32) (p : Nat) (hp : p ≤ n) (q p1 : Nat) (hq : rRun bBlank (I 63) n 160 p = q) (hp1 : vNx (I 63) n q = p1) (y : Bool) (tk : Int32) (v1 : Int32) (K : List Int32) (o : Int32) (cs : List Int32) (hl : K.length + cs.length < 200) (b t v : Int32) (H : Nat → Int32) (hH : tSt H K) (htk : zTk (I 71) (I 63) n q = tk) (hva : zVa (I 71) (I 63) n q = v1) (hn59 : ¬ tk = 59) (hn41 : ¬ tk = 41) (s : Int32) (hs : zSg tk = s) (hs1 : ¬ s = -1) (K1 : List Int32) (o1 : Int32) (cs1 : List Int32) (hl1 : K1.length + cs1.length < 200) (hH1 : tSt H K1) (hrk : ¬ zRank s = 4) (hU : zUn (zRank s) K o cs = (K1, o1, cs1)) (ih : ∀ b t v H, tSt H (s :: K1) → Qe l G d nn I tc n r p1 (s :: K1) o1 cs1 true (decide (s ≤ 12)) b t v H) : Qe l G d nn I tc n r p K o cs false y b t v H := by
  unfold Qe
  rw [show ([(0, .ref (xg G 59)), (1, .int (xb false)), (2, .int (xb y))] : List (Nat × Value)) = [(0, .ref (xg G 59)), (1, .int 0), (2, .int (xb y))] from rfl]
  refine X_aload_n d_Model_eRead_14 rfl rfl ?_
  refine X_callVv (rest := []) (by have q0 := c_Model_next l G nn (d := d - 1) (by omega) I n h5 hn (zC (200 * tc) cs (I 64)) H b t v (nI K.length) o (nI cs.length) hB p hp; rw [hq, hp1, htk, hva] at q0; exact q0) lk_Model_next ml_Model_119 (xm_obj (show (xup xYf 72 (some (sInts 200))) 59 = some sModel from rfl)) rfl rfl (Nat.le_of_ble_eq_true rfl) (xRok (d' := d - 1) (by omega) (by decide)) ⟨Nat.le_refl _, Nat.le_refl _⟩ d_Model_eRead_15 rfl ?_
  refine X_iload_n d_Model_eRead_18 rfl rfl ?_
  refine X_if_eq (tgt := 150) d_Model_eRead_19 (by decide) (fun _ => ?_) (fun c_1 => absurd c_1 (by decide))
  refine X_aload_n d_Model_eRead_150 rfl rfl ?_
  refine X_getI (v := tk) fg_Model_86 (show (xup xYf 72 (some (sInts 200))) 59 = some sModel from rfl) rfl ((congrFun (xup_s _ _ _) _).trans (zS_20 _ _ _ _ _ _ _ _)) d_Model_eRead_151 ?_
  refine X_bipush (v := 59) d_Model_eRead_154 rfl ?_
  refine X_icmp_ne (tgt := 177) d_Model_eRead_156 (by decide) (fun _ => ?_) (fun c_2 => absurd c_2 hn59)
  refine X_aload_n d_Model_eRead_177 rfl rfl ?_
  refine X_getI (v := tk) fg_Model_86 (show (xup xYf 72 (some (sInts 200))) 59 = some sModel from rfl) rfl ((congrFun (xup_s _ _ _) _).trans (zS_20 _ _ _ _ _ _ _ _)) d_Model_eRead_178 ?_
  refine X_bipush (v := 41) d_Model_eRead_181 rfl ?_
  refine X_icmp_ne (tgt := 229) d_Model_eRead_183 (by decide) (fun _ => ?_) (fun c_3 => absurd c_3 hn41)
  refine X_aload_n d_Model_eRead_229 rfl rfl ?_
  refine X_callV (v := .int (zSg tk)) (rest := []) (c_Model_signOf l G nn (by omega) I tc h8 htc (nI p1) (nI q) tk v1 H K o cs ) lk_Model_signOf ml_Model_126 (xm_obj (show (xup xYf 72 (some (sInts 200))) 59 = some sModel from rfl)) rfl rfl (Nat.le_of_ble_eq_true rfl) (xRok (d' := d - 1) (by omega) (by decide)) ⟨Nat.le_refl _, Nat.le_refl _⟩ d_Model_eRead_230 rfl ?_
  rw [hs]
  refine X_istore_n d_Model_eRead_233 rfl (by decide) [1, 2, 3, 0] (L' := [(0, .ref (xg G 59)), (1, .int 0), (2, .int (xb y)), (3, .int s)]) rfl ?_
  refine X_iload_n d_Model_eRead_234 rfl rfl ?_
  refine X_iconst (v := -1) d_Model_eRead_235 rfl ?_
  refine X_icmp_eq (tgt := 247) d_Model_eRead_236 (by decide) (fun c_4 => absurd c_4 hs1) (fun _ => ?_)
  refine X_aload_n d_Model_eRead_239 rfl rfl ?_
  refine X_iload_n d_Model_eRead_240 rfl rfl ?_
  refine X_callV (v := .int 1) (rest := []) (c_bt_a l G nn (by omega) I tc h8 htc (nI p1) (nI q) tk v1 H K o cs s K1 o1 cs1 hH hl hl1 hrk hU) lk_Model_between ml_Model_129 (xm_obj (show (xup xYf 72 (some (sInts 200))) 59 = some sModel from rfl)) rfl rfl (Nat.le_of_ble_eq_true rfl) (xRok (d' := d - 1) (by omega) (by decide)) ⟨Nat.le_refl _, Nat.le_refl _⟩ d_Model_eRead_241 rfl ?_
  refine X_if_ne (tgt := 249) d_Model_eRead_244 (by decide) (fun _ => ?_) (fun c_5 => absurd c_5 (by decide))
  refine X_iconst (v := 1) d_Model_eRead_249 rfl ?_
  refine X_istore_n d_Model_eRead_250 rfl (by decide) [1, 0, 2, 3] (L' := [(0, .ref (xg G 59)), (1, .int 1), (2, .int (xb y)), (3, .int s)]) rfl ?_
  refine X_iload_n d_Model_eRead_251 rfl rfl ?_
  refine X_bipush (v := 12) d_Model_eRead_252 rfl ?_
  refine X_icmp_gt (tgt := 261) d_Model_eRead_254 (by decide) (fun c_6 => ?_) (fun c_6 => ?_)
  ·
    refine X_iconst (v := 0) d_Model_eRead_261 rfl ?_
    refine X_istore_n d_Model_eRead_262 rfl (by decide) [1, 2, 0, 3] (L' := [(0, .ref (xg G 59)), (1, .int 1), (2, .int 0), (3, .int s)]) rfl ?_
    refine X_goto (tgt := 14) d_Model_eRead_263 (by decide) ?_
    have key := ih (nI q) tk v1 (xup H K1.length s) (tSt_push hH1 _)
    unfold Qe at key
    rw [show decide (s ≤ 12) = false from decide_eq_false (Int32.not_le.mpr c_6)] at key
    refine X_sub [0, 1, 2] (L' := [(0, .ref (xg G 59)), (1, .int 1), (2, .int 0)]) rfl ?_
    exact key
  ·
    refine X_iconst (v := 1) d_Model_eRead_257 rfl ?_
    refine X_goto (tgt := 262) d_Model_eRead_258 (by decide) ?_
    refine X_istore_n d_Model_eRead_262 rfl (by decide) [1, 2, 0, 3] (L' := [(0, .ref (xg G 59)), (1, .int 1), (2, .int 1), (3, .int s)]) rfl ?_
    refine X_goto (tgt := 14) d_Model_eRead_263 (by decide) ?_
    have key := ih (nI q) tk v1 (xup H K1.length s) (tSt_push hH1 _)
    unfold Qe at key
    rw [show decide (s ≤ 12) = true from decide_eq_true (Int32.not_lt.mp c_6)] at key
    refine X_sub [0, 1, 2] (L' := [(0, .ref (xg G 59)), (1, .int 1), (2, .int 1)]) rfl ?_
    exact key
theorem e_B7b (l : Launch) (G : xG) {d : Nat} (nn : Nat) (hd : 4 ≤ d) (I : xI) (tc : Nat) (h8 : I 59 8 = nI tc) (htc : tc < 6) (n : Nat) (h5 : I 59 5 = nI n) (hn : n ≤ 160) (hB : ∀ j, j < n → ¬ I 63 j < 0) (r : Bool × Nat × List Int32 × Int32 × List Int32) (p : Nat) (hp : p ≤ n) (q p1 : Nat) (hq : rRun bBlank (I 63) n 160 p = q) (hp1 : vNx (I 63) n q = p1) (y : Bool) (tk : Int32) (v1 : Int32) (K : List Int32) (o : Int32) (cs : List Int32) (hl : K.length + cs.length < 200) (b t v : Int32) (H : Nat → Int32) (hH : tSt H K) (htk : zTk (I 71) (I 63) n q = tk) (hva : zVa (I 71) (I 63) n q = v1) (hn59 : ¬ tk = 59) (hn41 : ¬ tk = 41) (s : Int32) (hs : zSg tk = s) (hs1 : ¬ s = -1) (o1 : Int32) (cs1 : List Int32) (hl1 : ([] : List Int32).length + cs1.length < 200) (hH1 : tSt H ([] : List Int32)) (hrk : zRank s = 4) (hU : zUn 5 K o cs = ([], o1, cs1)) (ih : ∀ b t v H, tSt H (s :: []) → Qe l G d nn I tc n r p1 (s :: []) o1 cs1 true (decide (s ≤ 12)) b t v H) : Qe l G d nn I tc n r p K o cs false y b t v H := by
  unfold Qe
  rw [show ([(0, .ref (xg G 59)), (1, .int (xb false)), (2, .int (xb y))] : List (Nat × Value)) = [(0, .ref (xg G 59)), (1, .int 0), (2, .int (xb y))] from rfl]
  refine X_aload_n d_Model_eRead_14 rfl rfl ?_
  refine X_callVv (rest := []) (by have q0 := c_Model_next l G nn (d := d - 1) (by omega) I n h5 hn (zC (200 * tc) cs (I 64)) H b t v (nI K.length) o (nI cs.length) hB p hp; rw [hq, hp1, htk, hva] at q0; exact q0) lk_Model_next ml_Model_119 (xm_obj (show (xup xYf 72 (some (sInts 200))) 59 = some sModel from rfl)) rfl rfl (Nat.le_of_ble_eq_true rfl) (xRok (d' := d - 1) (by omega) (by decide)) ⟨Nat.le_refl _, Nat.le_refl _⟩ d_Model_eRead_15 rfl ?_
  refine X_iload_n d_Model_eRead_18 rfl rfl ?_
  refine X_if_eq (tgt := 150) d_Model_eRead_19 (by decide) (fun _ => ?_) (fun c_1 => absurd c_1 (by decide))
  refine X_aload_n d_Model_eRead_150 rfl rfl ?_
  refine X_getI (v := tk) fg_Model_86 (show (xup xYf 72 (some (sInts 200))) 59 = some sModel from rfl) rfl ((congrFun (xup_s _ _ _) _).trans (zS_20 _ _ _ _ _ _ _ _)) d_Model_eRead_151 ?_
  refine X_bipush (v := 59) d_Model_eRead_154 rfl ?_
  refine X_icmp_ne (tgt := 177) d_Model_eRead_156 (by decide) (fun _ => ?_) (fun c_2 => absurd c_2 hn59)
  refine X_aload_n d_Model_eRead_177 rfl rfl ?_
  refine X_getI (v := tk) fg_Model_86 (show (xup xYf 72 (some (sInts 200))) 59 = some sModel from rfl) rfl ((congrFun (xup_s _ _ _) _).trans (zS_20 _ _ _ _ _ _ _ _)) d_Model_eRead_178 ?_
  refine X_bipush (v := 41) d_Model_eRead_181 rfl ?_
  refine X_icmp_ne (tgt := 229) d_Model_eRead_183 (by decide) (fun _ => ?_) (fun c_3 => absurd c_3 hn41)
  refine X_aload_n d_Model_eRead_229 rfl rfl ?_
  refine X_callV (v := .int (zSg tk)) (rest := []) (c_Model_signOf l G nn (by omega) I tc h8 htc (nI p1) (nI q) tk v1 H K o cs ) lk_Model_signOf ml_Model_126 (xm_obj (show (xup xYf 72 (some (sInts 200))) 59 = some sModel from rfl)) rfl rfl (Nat.le_of_ble_eq_true rfl) (xRok (d' := d - 1) (by omega) (by decide)) ⟨Nat.le_refl _, Nat.le_refl _⟩ d_Model_eRead_230 rfl ?_
  rw [hs]
  refine X_istore_n d_Model_eRead_233 rfl (by decide) [1, 2, 3, 0] (L' := [(0, .ref (xg G 59)), (1, .int 0), (2, .int (xb y)), (3, .int s)]) rfl ?_
  refine X_iload_n d_Model_eRead_234 rfl rfl ?_
  refine X_iconst (v := -1) d_Model_eRead_235 rfl ?_
  refine X_icmp_eq (tgt := 247) d_Model_eRead_236 (by decide) (fun c_4 => absurd c_4 hs1) (fun _ => ?_)
  refine X_aload_n d_Model_eRead_239 rfl rfl ?_
  refine X_iload_n d_Model_eRead_240 rfl rfl ?_
  refine X_callV (v := .int 1) (rest := []) (c_bt_b l G nn (by omega) I tc h8 htc (nI p1) (nI q) tk v1 H K o cs s [] o1 cs1 hH hl hl1 hrk hU) lk_Model_between ml_Model_129 (xm_obj (show (xup xYf 72 (some (sInts 200))) 59 = some sModel from rfl)) rfl rfl (Nat.le_of_ble_eq_true rfl) (xRok (d' := d - 1) (by omega) (by decide)) ⟨Nat.le_refl _, Nat.le_refl _⟩ d_Model_eRead_241 rfl ?_
  refine X_if_ne (tgt := 249) d_Model_eRead_244 (by decide) (fun _ => ?_) (fun c_5 => absurd c_5 (by decide))
  refine X_iconst (v := 1) d_Model_eRead_249 rfl ?_
  refine X_istore_n d_Model_eRead_250 rfl (by decide) [1, 0, 2, 3] (L' := [(0, .ref (xg G 59)), (1, .int 1), (2, .int (xb y)), (3, .int s)]) rfl ?_
  refine X_iload_n d_Model_eRead_251 rfl rfl ?_
  refine X_bipush (v := 12) d_Model_eRead_252 rfl ?_
  refine X_icmp_gt (tgt := 261) d_Model_eRead_254 (by decide) (fun c_6 => ?_) (fun c_6 => ?_)
  ·
    refine X_iconst (v := 0) d_Model_eRead_261 rfl ?_
    refine X_istore_n d_Model_eRead_262 rfl (by decide) [1, 2, 0, 3] (L' := [(0, .ref (xg G 59)), (1, .int 1), (2, .int 0), (3, .int s)]) rfl ?_
    refine X_goto (tgt := 14) d_Model_eRead_263 (by decide) ?_
    have key := ih (nI q) tk v1 (xup H ([] : List Int32).length s) (tSt_push hH1 _)
    unfold Qe at key
    rw [show decide (s ≤ 12) = false from decide_eq_false (Int32.not_le.mpr c_6)] at key
    refine X_sub [0, 1, 2] (L' := [(0, .ref (xg G 59)), (1, .int 1), (2, .int 0)]) rfl ?_
    exact key
  ·
    refine X_iconst (v := 1) d_Model_eRead_257 rfl ?_
    refine X_goto (tgt := 262) d_Model_eRead_258 (by decide) ?_
    refine X_istore_n d_Model_eRead_262 rfl (by decide) [1, 2, 0, 3] (L' := [(0, .ref (xg G 59)), (1, .int 1), (2, .int 1), (3, .int s)]) rfl ?_
    refine X_goto (tgt := 14) d_Model_eRead_263 (by decide) ?_
    have key := ih (nI q) tk v1 (xup H ([] : List Int32).length s) (tSt_push hH1 _)
    unfold Qe at key
    rw [show decide (s ≤ 12) = true from decide_eq_true (Int32.not_lt.mp c_6)] at key
    refine X_sub [0, 1, 2] (L' := [(0, .ref (xg G 59)), (1, .int 1), (2, .int 1)]) rfl ?_
    exact key
theorem e_B7d (l : Launch) (G : xG) {d : Nat} (nn : Nat) (hd : 4 ≤ d) (I : xI) (tc : Nat) (h8 : I 59 8 = nI tc) (htc : tc < 6) (n : Nat) (h5 : I 59 5 = nI n) (hn : n ≤ 160) (hB : ∀ j, j < n → ¬ I 63 j < 0) (r : Bool × Nat × List Int32 × Int32 × List Int32) (p : Nat) (hp : p ≤ n) (q p1 : Nat) (hq : rRun bBlank (I 63) n 160 p = q) (hp1 : vNx (I 63) n q = p1) (y : Bool) (tk : Int32) (v1 : Int32) (K : List Int32) (o : Int32) (cs : List Int32) (hl : K.length + cs.length < 200) (b t v : Int32) (H : Nat → Int32) (hH : tSt H K) (htk : zTk (I 71) (I 63) n q = tk) (hva : zVa (I 71) (I 63) n q = v1) (hn59 : ¬ tk = 59) (hn41 : ¬ tk = 41) (s : Int32) (hs : zSg tk = s) (hs1 : ¬ s = -1) (K1 : List Int32) (t1 : Int32) (o1 : Int32) (cs1 : List Int32) (hl1 : (t1 :: K1).length + cs1.length < 200) (hH1 : tSt H (t1 :: K1)) (hrk : zRank s = 4) (hU : zUn 5 K o cs = (t1 :: K1, o1, cs1)) (hT1 : H K1.length = t1) (hr1 : ¬ zRank t1 = 4) (ih : ∀ b t v H, tSt H (s :: (t1 :: K1)) → Qe l G d nn I tc n r p1 (s :: (t1 :: K1)) o1 cs1 true (decide (s ≤ 12)) b t v H) : Qe l G d nn I tc n r p K o cs false y b t v H := by
  unfold Qe
  rw [show ([(0, .ref (xg G 59)), (1, .int (xb false)), (2, .int (xb y))] : List (Nat × Value)) = [(0, .ref (xg G 59)), (1, .int 0), (2, .int (xb y))] from rfl]
  refine X_aload_n d_Model_eRead_14 rfl rfl ?_
  refine X_callVv (rest := []) (by have q0 := c_Model_next l G nn (d := d - 1) (by omega) I n h5 hn (zC (200 * tc) cs (I 64)) H b t v (nI K.length) o (nI cs.length) hB p hp; rw [hq, hp1, htk, hva] at q0; exact q0) lk_Model_next ml_Model_119 (xm_obj (show (xup xYf 72 (some (sInts 200))) 59 = some sModel from rfl)) rfl rfl (Nat.le_of_ble_eq_true rfl) (xRok (d' := d - 1) (by omega) (by decide)) ⟨Nat.le_refl _, Nat.le_refl _⟩ d_Model_eRead_15 rfl ?_
  refine X_iload_n d_Model_eRead_18 rfl rfl ?_
  refine X_if_eq (tgt := 150) d_Model_eRead_19 (by decide) (fun _ => ?_) (fun c_1 => absurd c_1 (by decide))
  refine X_aload_n d_Model_eRead_150 rfl rfl ?_
  refine X_getI (v := tk) fg_Model_86 (show (xup xYf 72 (some (sInts 200))) 59 = some sModel from rfl) rfl ((congrFun (xup_s _ _ _) _).trans (zS_20 _ _ _ _ _ _ _ _)) d_Model_eRead_151 ?_
  refine X_bipush (v := 59) d_Model_eRead_154 rfl ?_
  refine X_icmp_ne (tgt := 177) d_Model_eRead_156 (by decide) (fun _ => ?_) (fun c_2 => absurd c_2 hn59)
  refine X_aload_n d_Model_eRead_177 rfl rfl ?_
  refine X_getI (v := tk) fg_Model_86 (show (xup xYf 72 (some (sInts 200))) 59 = some sModel from rfl) rfl ((congrFun (xup_s _ _ _) _).trans (zS_20 _ _ _ _ _ _ _ _)) d_Model_eRead_178 ?_
  refine X_bipush (v := 41) d_Model_eRead_181 rfl ?_
  refine X_icmp_ne (tgt := 229) d_Model_eRead_183 (by decide) (fun _ => ?_) (fun c_3 => absurd c_3 hn41)
  refine X_aload_n d_Model_eRead_229 rfl rfl ?_
  refine X_callV (v := .int (zSg tk)) (rest := []) (c_Model_signOf l G nn (by omega) I tc h8 htc (nI p1) (nI q) tk v1 H K o cs ) lk_Model_signOf ml_Model_126 (xm_obj (show (xup xYf 72 (some (sInts 200))) 59 = some sModel from rfl)) rfl rfl (Nat.le_of_ble_eq_true rfl) (xRok (d' := d - 1) (by omega) (by decide)) ⟨Nat.le_refl _, Nat.le_refl _⟩ d_Model_eRead_230 rfl ?_
  rw [hs]
  refine X_istore_n d_Model_eRead_233 rfl (by decide) [1, 2, 3, 0] (L' := [(0, .ref (xg G 59)), (1, .int 0), (2, .int (xb y)), (3, .int s)]) rfl ?_
  refine X_iload_n d_Model_eRead_234 rfl rfl ?_
  refine X_iconst (v := -1) d_Model_eRead_235 rfl ?_
  refine X_icmp_eq (tgt := 247) d_Model_eRead_236 (by decide) (fun c_4 => absurd c_4 hs1) (fun _ => ?_)
  refine X_aload_n d_Model_eRead_239 rfl rfl ?_
  refine X_iload_n d_Model_eRead_240 rfl rfl ?_
  refine X_callV (v := .int 1) (rest := []) (c_bt_d l G nn (by omega) I tc h8 htc (nI p1) (nI q) tk v1 H K o cs s K1 o1 cs1 t1 hH hl hl1 hrk hU hT1 hr1) lk_Model_between ml_Model_129 (xm_obj (show (xup xYf 72 (some (sInts 200))) 59 = some sModel from rfl)) rfl rfl (Nat.le_of_ble_eq_true rfl) (xRok (d' := d - 1) (by omega) (by decide)) ⟨Nat.le_refl _, Nat.le_refl _⟩ d_Model_eRead_241 rfl ?_
  refine X_if_ne (tgt := 249) d_Model_eRead_244 (by decide) (fun _ => ?_) (fun c_5 => absurd c_5 (by decide))
  refine X_iconst (v := 1) d_Model_eRead_249 rfl ?_
  refine X_istore_n d_Model_eRead_250 rfl (by decide) [1, 0, 2, 3] (L' := [(0, .ref (xg G 59)), (1, .int 1), (2, .int (xb y)), (3, .int s)]) rfl ?_
  refine X_iload_n d_Model_eRead_251 rfl rfl ?_
  refine X_bipush (v := 12) d_Model_eRead_252 rfl ?_
  refine X_icmp_gt (tgt := 261) d_Model_eRead_254 (by decide) (fun c_6 => ?_) (fun c_6 => ?_)
  ·
    refine X_iconst (v := 0) d_Model_eRead_261 rfl ?_
    refine X_istore_n d_Model_eRead_262 rfl (by decide) [1, 2, 0, 3] (L' := [(0, .ref (xg G 59)), (1, .int 1), (2, .int 0), (3, .int s)]) rfl ?_
    refine X_goto (tgt := 14) d_Model_eRead_263 (by decide) ?_
    have key := ih (nI q) tk v1 (xup H (t1 :: K1).length s) (tSt_push hH1 _)
    unfold Qe at key
    rw [show decide (s ≤ 12) = false from decide_eq_false (Int32.not_le.mpr c_6)] at key
    refine X_sub [0, 1, 2] (L' := [(0, .ref (xg G 59)), (1, .int 1), (2, .int 0)]) rfl ?_
    exact key
  ·
    refine X_iconst (v := 1) d_Model_eRead_257 rfl ?_
    refine X_goto (tgt := 262) d_Model_eRead_258 (by decide) ?_
    refine X_istore_n d_Model_eRead_262 rfl (by decide) [1, 2, 0, 3] (L' := [(0, .ref (xg G 59)), (1, .int 1), (2, .int 1), (3, .int s)]) rfl ?_
    refine X_goto (tgt := 14) d_Model_eRead_263 (by decide) ?_
    have key := ih (nI q) tk v1 (xup H (t1 :: K1).length s) (tSt_push hH1 _)
    unfold Qe at key
    rw [show decide (s ≤ 12) = true from decide_eq_true (Int32.not_lt.mp c_6)] at key
    refine X_sub [0, 1, 2] (L' := [(0, .ref (xg G 59)), (1, .int 1), (2, .int 1)]) rfl ?_
    exact key
theorem e_B7e (l : Launch) (G : xG) {d : Nat} (nn : Nat) (hd : 4 ≤ d) (I : xI) (tc : Nat) (h8 : I 59 8 = nI tc) (htc : tc < 6) (n : Nat) (h5 : I 59 5 = nI n) (hn : n ≤ 160) (hB : ∀ j, j < n → ¬ I 63 j < 0) (r : Bool × Nat × List Int32 × Int32 × List Int32) (p : Nat) (hp : p ≤ n) (q p1 : Nat) (hq : rRun bBlank (I 63) n 160 p = q) (hp1 : vNx (I 63) n q = p1) (y : Bool) (tk : Int32) (v1 : Int32) (K : List Int32) (o : Int32) (cs : List Int32) (hl : K.length + cs.length < 200) (b t v : Int32) (H : Nat → Int32) (hH : tSt H K) (htk : zTk (I 71) (I 63) n q = tk) (hva : zVa (I 71) (I 63) n q = v1) (hn59 : ¬ tk = 59) (hn41 : ¬ tk = 41) (s : Int32) (hs : zSg tk = s) (hs1 : ¬ s = -1) (K1 : List Int32) (t1 : Int32) (o1 : Int32) (cs1 : List Int32) (hl1 : (t1 :: K1).length + cs1.length < 200) (hH1 : tSt H (t1 :: K1)) (hrk : zRank s = 4) (hU : zUn 5 K o cs = (t1 :: K1, o1, cs1)) (hT1 : H K1.length = t1) (hr1 : zRank t1 = 4) (hr : r = (false, p, (t1 :: K1), o1, cs1)) : Qe l G d nn I tc n r p K o cs false y b t v H := by
  unfold Qe
  rw [show ([(0, .ref (xg G 59)), (1, .int (xb false)), (2, .int (xb y))] : List (Nat × Value)) = [(0, .ref (xg G 59)), (1, .int 0), (2, .int (xb y))] from rfl]
  refine X_aload_n d_Model_eRead_14 rfl rfl ?_
  refine X_callVv (rest := []) (by have q0 := c_Model_next l G nn (d := d - 1) (by omega) I n h5 hn (zC (200 * tc) cs (I 64)) H b t v (nI K.length) o (nI cs.length) hB p hp; rw [hq, hp1, htk, hva] at q0; exact q0) lk_Model_next ml_Model_119 (xm_obj (show (xup xYf 72 (some (sInts 200))) 59 = some sModel from rfl)) rfl rfl (Nat.le_of_ble_eq_true rfl) (xRok (d' := d - 1) (by omega) (by decide)) ⟨Nat.le_refl _, Nat.le_refl _⟩ d_Model_eRead_15 rfl ?_
  refine X_iload_n d_Model_eRead_18 rfl rfl ?_
  refine X_if_eq (tgt := 150) d_Model_eRead_19 (by decide) (fun _ => ?_) (fun c_1 => absurd c_1 (by decide))
  refine X_aload_n d_Model_eRead_150 rfl rfl ?_
  refine X_getI (v := tk) fg_Model_86 (show (xup xYf 72 (some (sInts 200))) 59 = some sModel from rfl) rfl ((congrFun (xup_s _ _ _) _).trans (zS_20 _ _ _ _ _ _ _ _)) d_Model_eRead_151 ?_
  refine X_bipush (v := 59) d_Model_eRead_154 rfl ?_
  refine X_icmp_ne (tgt := 177) d_Model_eRead_156 (by decide) (fun _ => ?_) (fun c_2 => absurd c_2 hn59)
  refine X_aload_n d_Model_eRead_177 rfl rfl ?_
  refine X_getI (v := tk) fg_Model_86 (show (xup xYf 72 (some (sInts 200))) 59 = some sModel from rfl) rfl ((congrFun (xup_s _ _ _) _).trans (zS_20 _ _ _ _ _ _ _ _)) d_Model_eRead_178 ?_
  refine X_bipush (v := 41) d_Model_eRead_181 rfl ?_
  refine X_icmp_ne (tgt := 229) d_Model_eRead_183 (by decide) (fun _ => ?_) (fun c_3 => absurd c_3 hn41)
  refine X_aload_n d_Model_eRead_229 rfl rfl ?_
  refine X_callV (v := .int (zSg tk)) (rest := []) (c_Model_signOf l G nn (by omega) I tc h8 htc (nI p1) (nI q) tk v1 H K o cs ) lk_Model_signOf ml_Model_126 (xm_obj (show (xup xYf 72 (some (sInts 200))) 59 = some sModel from rfl)) rfl rfl (Nat.le_of_ble_eq_true rfl) (xRok (d' := d - 1) (by omega) (by decide)) ⟨Nat.le_refl _, Nat.le_refl _⟩ d_Model_eRead_230 rfl ?_
  rw [hs]
  refine X_istore_n d_Model_eRead_233 rfl (by decide) [1, 2, 3, 0] (L' := [(0, .ref (xg G 59)), (1, .int 0), (2, .int (xb y)), (3, .int s)]) rfl ?_
  refine X_iload_n d_Model_eRead_234 rfl rfl ?_
  refine X_iconst (v := -1) d_Model_eRead_235 rfl ?_
  refine X_icmp_eq (tgt := 247) d_Model_eRead_236 (by decide) (fun c_4 => absurd c_4 hs1) (fun _ => ?_)
  refine X_aload_n d_Model_eRead_239 rfl rfl ?_
  refine X_iload_n d_Model_eRead_240 rfl rfl ?_
  refine X_callV (v := .int 0) (rest := []) (c_bt_e l G nn (by omega) I tc h8 htc (nI p1) (nI q) tk v1 H K o cs s K1 o1 cs1 t1 hH hl hl1 hrk hU hT1 hr1) lk_Model_between ml_Model_129 (xm_obj (show (xup xYf 72 (some (sInts 200))) 59 = some sModel from rfl)) rfl rfl (Nat.le_of_ble_eq_true rfl) (xRok (d' := d - 1) (by omega) (by decide)) ⟨Nat.le_refl _, Nat.le_refl _⟩ d_Model_eRead_241 rfl ?_
  refine X_if_ne (tgt := 249) d_Model_eRead_244 (by decide) (fun c_5 => absurd c_5 (by decide)) (fun _ => ?_)
  refine X_iconst (v := 0) d_Model_eRead_247 rfl ?_
  rw [hr]
  exact X_zret rfl rfl rfl (xle_tr (xle_72 (J := xup (xup (xup I 64 (zC (200 * tc) cs1 (I 64))) 72 H) 59 (zS (I 59) (nI p1) (nI q) tk v1 (nI (t1 :: K1).length) o1 (nI cs1.length))) (I := xup (xup I 64 (zC (200 * tc) cs1 (I 64))) 59 (zS (I 59) (nI p1) (nI q) tk v1 (nI (t1 :: K1).length) o1 (nI cs1.length))) H (fun k hk => by simp only [xup_ap, if_neg hk])) (xle_of (congrArg (xm G xYf) (by simp only [zBl, hq, hp1, htk, hva])))) d_Model_eRead_248
