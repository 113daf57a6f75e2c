def iNot (nt sum : xI → xI) (t : Nat) (I : xI) : xI := if bAt 133 I = true then (if 5 ≤ I 11 7 then iFail I else iAdd t 30000 (iDec (nt (iAdv (iInc I))))) else if bAt 60 (sum I) = true ∨ bAt 61 (sum I) = true then iAdd t (if (sum I) 11 5 = 60 then 20002 else 20003) (sum (iAdv (sum I))) else sum I
def iOne (one orr : xI → xI) (t : Nat) (I : xI) : xI := if 0 ≤ I 11 8 then I else if I 11 5 = 1 then iAdv (iAdd t (I 11 6) I) else if 134 ≤ I 11 5 ∧ I 11 5 ≤ 139 then iAdv (iAdd t (10000 + I 11 5 - 134) I) else if I 11 5 = 45 then (if 5 ≤ I 11 7 then iFail I else iAdd t 30001 (iDec (one (iAdv (iInc I))))) else if I 11 5 = 40 then (if 5 ≤ I 11 7 then iFail I else iExp 41 (iDec (orr (iAdv (iInc I))))) else iFail I
theorem pOK_lt {n o : Nat} {I : xI} (h : pOK n o I) (ho : o ≤ 5) (c : ¬ 5 ≤ I 11 7) : o < 5 := pOK_o5 h (Int32.not_le.mp c) (by omega)
theorem pOK_not {n o t : Nat} (hs : tSh t) (ho : o ≤ 5) {nt sum : xI → xI} (hN : o < 5 → ∀ I, pOK n (o + 1) I → pOK n (o + 1) (nt I)) (hS : ∀ I, pOK n o I → pOK n o (sum I)) (I : xI) (h : pOK n o I) : pOK n o (iNot nt sum t I) := by
  unfold iNot
  split
  · split
    · exact pOK_fail h
    · rename_i c
      exact pOK_add (pOK_dec (hN (pOK_lt h ho c) _ (pOK_adv (pOK_inc h)))) hs _
  · split
    · exact pOK_add (hS _ (pOK_adv (hS _ h))) hs _
    · exact hS _ h
theorem pOK_one {n o t : Nat} (hs : tSh t) (ho : o ≤ 5) {one orr : xI → xI} (hO : o < 5 → ∀ I, pOK n (o + 1) I → pOK n (o + 1) (one I)) (hR : o < 5 → ∀ I, pOK n (o + 1) I → pOK n (o + 1) (orr I)) (I : xI) (h : pOK n o I) : pOK n o (iOne one orr t I) := by
  unfold iOne
  split
  · exact h
  · split
    · exact pOK_adv (pOK_add h hs _)
    · split
      · exact pOK_adv (pOK_add h hs _)
      · split
        · split
          · exact pOK_fail h
          · rename_i c
            exact pOK_add (pOK_dec (hO (pOK_lt h ho c) _ (pOK_adv (pOK_inc h)))) hs _
        · split
          · split
            · exact pOK_fail h
            · rename_i c
              exact pOK_exp (pOK_dec (hR (pOK_lt h ho c) _ (pOK_adv (pOK_inc h)))) _
          · exact pOK_fail h
theorem k_Reader_readNot (l : Launch) (G : xG) {n o t h h' H : Nat} (hs : tSh t) (ho5 : o ≤ 5) {nt sum : xI → xI} (hN : o < 5 → cF l G h' y_Reader_readNot b_Reader_readNot 3 n (o + 1) t nt) (hS : cF l G h y_Reader_readSum b_Reader_readSum 4 n o t sum) (h5 : 5 ≤ H) (hh : h + 1 ≤ H) (hh' : h' + 1 ≤ H) : cF l G H y_Reader_readNot b_Reader_readNot 3 n o t (iNot nt sum t) := by
  refine ⟨fun d nn I hd h => ?_, pOK_not hs ho5 (fun q => (hN q).2) hS.2⟩
  refine XM.of (by decide) (Nat.le_of_ble_eq_true rfl) (L := [(0, .ref (xg G 11)), (1, .ref (xg G t))]) rfl ?_
  refine X_aload_n d_Reader_readNot_0 rfl rfl ?_
  refine X_sipush (v := 133) d_Reader_readNot_1 rfl ?_
  refine X_callV (v := .int (xb (bAt 133 I))) (rest := []) (k_Reader_at l G nn (by omega) I 133) lk_Reader_at ml_Reader_83 (xm_obj (show xYf 11 = some (sReader 12 13) from rfl)) rfl rfl (Nat.le_of_ble_eq_true rfl) (xRok (d' := d - 1) (by omega) (by decide)) ⟨Nat.le_refl _, Nat.le_refl _⟩ d_Reader_readNot_4 rfl ?_
  refine X_ifb_eq (tgt := 40) d_Reader_readNot_7 (by decide) (fun c_1 => ?_) (fun c_1 => ?_)
  ·
    refine X_aload_n d_Reader_readNot_40 rfl rfl ?_
    refine X_aload_n d_Reader_readNot_41 rfl rfl ?_
    refine X_callVv (rest := []) (hS.1 _ nn I (by omega) h) lk_Reader_readSum ml_Reader_96 (xm_obj (show xYf 11 = some (sReader 12 13) from rfl)) rfl rfl (Nat.le_of_ble_eq_true rfl) (xRok (d' := d - 1) (by omega) (by decide)) ⟨Nat.le_refl _, Nat.le_refl _⟩ d_Reader_readNot_42 rfl ?_
    refine X_aload_n d_Reader_readNot_45 rfl rfl ?_
    refine X_bipush (v := 60) d_Reader_readNot_46 rfl ?_
    refine X_callV (v := .int (xb (bAt 60 (sum I)))) (rest := []) (k_Reader_at l G nn (by omega) (sum I) 60) lk_Reader_at ml_Reader_83 (xm_obj (show xYf 11 = some (sReader 12 13) from rfl)) rfl rfl (Nat.le_of_ble_eq_true rfl) (xRok (d' := d - 1) (by omega) (by decide)) ⟨Nat.le_refl _, Nat.le_refl _⟩ d_Reader_readNot_48 rfl ?_
    refine X_ifb_ne (tgt := 63) d_Reader_readNot_51 (by decide) (fun c_2 => ?_) (fun c_2 => ?_)
    ·
      refine X_aload_n d_Reader_readNot_63 rfl rfl ?_
      refine X_getI (v := (sum I) 11 5) fg_Reader_74 (show xYf 11 = some (sReader 12 13) from rfl) rfl (rfl) d_Reader_readNot_64 ?_
      refine X_bipush (v := 60) d_Reader_readNot_67 rfl ?_
      refine X_icmp_ne (tgt := 78) d_Reader_readNot_69 (by decide) (fun c_3 => ?_) (fun c_3 => ?_)
      ·
        refine X_sipush (v := 20003) d_Reader_readNot_78 rfl ?_
        refine X_istore_n d_Reader_readNot_81 rfl (by decide) [1, 2, 0] (L' := [(0, .ref (xg G 11)), (1, .ref (xg G t)), (2, .int 20003)]) rfl ?_
        refine X_aload_n d_Reader_readNot_82 rfl rfl ?_
        refine X_callVv (rest := []) (k_Reader_advance l G nn (by omega) (sum I)  (hS.2 _ h)) lk_Reader_advance ml_Reader_53 (xm_obj (show xYf 11 = some (sReader 12 13) from rfl)) rfl rfl (Nat.le_of_ble_eq_true rfl) (xRok (d' := d - 1) (by omega) (by decide)) ⟨Nat.le_refl _, Nat.le_refl _⟩ d_Reader_readNot_83 rfl ?_
        refine X_aload_n d_Reader_readNot_86 rfl rfl ?_
        refine X_aload_n d_Reader_readNot_87 rfl rfl ?_
        refine X_callVv (rest := []) (hS.1 _ nn (iAdv (sum I)) (by omega) (pOK_adv (hS.2 _ h))) lk_Reader_readSum ml_Reader_96 (xm_obj (show xYf 11 = some (sReader 12 13) from rfl)) rfl rfl (Nat.le_of_ble_eq_true rfl) (xRok (d' := d - 1) (by omega) (by decide)) ⟨Nat.le_refl _, Nat.le_refl _⟩ d_Reader_readNot_88 rfl ?_
        refine X_aload_n d_Reader_readNot_91 rfl rfl ?_
        refine X_iload_n d_Reader_readNot_92 rfl rfl ?_
        refine X_callVv (rest := []) (k_Text_add l G nn (by omega) t hs (sum (iAdv (sum I))) 20003) lk_Text_add ml_Reader_87 (xm_obj hs.1) rfl rfl (Nat.le_of_ble_eq_true rfl) (xRok (d' := d - 1) (by omega) (by decide)) ⟨Nat.le_refl _, Nat.le_refl _⟩ d_Reader_readNot_93 rfl ?_
        exact X_vret rfl rfl (xle_of (congrArg (xm G xYf) (by first | (simp [iNot, c_1, c_2, c_3]; done) | (unfold iNot; grind)))) d_Reader_readNot_96
      ·
        refine X_sipush (v := 20002) d_Reader_readNot_72 rfl ?_
        refine X_goto (tgt := 81) d_Reader_readNot_75 (by decide) ?_
        refine X_istore_n d_Reader_readNot_81 rfl (by decide) [1, 2, 0] (L' := [(0, .ref (xg G 11)), (1, .ref (xg G t)), (2, .int 20002)]) rfl ?_
        refine X_aload_n d_Reader_readNot_82 rfl rfl ?_
        refine X_callVv (rest := []) (k_Reader_advance l G nn (by omega) (sum I)  (hS.2 _ h)) lk_Reader_advance ml_Reader_53 (xm_obj (show xYf 11 = some (sReader 12 13) from rfl)) rfl rfl (Nat.le_of_ble_eq_true rfl) (xRok (d' := d - 1) (by omega) (by decide)) ⟨Nat.le_refl _, Nat.le_refl _⟩ d_Reader_readNot_83 rfl ?_
        refine X_aload_n d_Reader_readNot_86 rfl rfl ?_
        refine X_aload_n d_Reader_readNot_87 rfl rfl ?_
        refine X_callVv (rest := []) (hS.1 _ nn (iAdv (sum I)) (by omega) (pOK_adv (hS.2 _ h))) lk_Reader_readSum ml_Reader_96 (xm_obj (show xYf 11 = some (sReader 12 13) from rfl)) rfl rfl (Nat.le_of_ble_eq_true rfl) (xRok (d' := d - 1) (by omega) (by decide)) ⟨Nat.le_refl _, Nat.le_refl _⟩ d_Reader_readNot_88 rfl ?_
        refine X_aload_n d_Reader_readNot_91 rfl rfl ?_
        refine X_iload_n d_Reader_readNot_92 rfl rfl ?_
        refine X_callVv (rest := []) (k_Text_add l G nn (by omega) t hs (sum (iAdv (sum I))) 20002) lk_Text_add ml_Reader_87 (xm_obj hs.1) rfl rfl (Nat.le_of_ble_eq_true rfl) (xRok (d' := d - 1) (by omega) (by decide)) ⟨Nat.le_refl _, Nat.le_refl _⟩ d_Reader_readNot_93 rfl ?_
        exact X_vret rfl rfl (xle_of (congrArg (xm G xYf) (by first | (simp [iNot, c_1, c_2, c_3]; done) | (unfold iNot; grind)))) d_Reader_readNot_96
    ·
      refine X_aload_n d_Reader_readNot_54 rfl rfl ?_
      refine X_bipush (v := 61) d_Reader_readNot_55 rfl ?_
      refine X_callV (v := .int (xb (bAt 61 (sum I)))) (rest := []) (k_Reader_at l G nn (by omega) (sum I) 61) lk_Reader_at ml_Reader_83 (xm_obj (show xYf 11 = some (sReader 12 13) from rfl)) rfl rfl (Nat.le_of_ble_eq_true rfl) (xRok (d' := d - 1) (by omega) (by decide)) ⟨Nat.le_refl _, Nat.le_refl _⟩ d_Reader_readNot_57 rfl ?_
      refine X_ifb_eq (tgt := 96) d_Reader_readNot_60 (by decide) (fun c_4 => ?_) (fun c_4 => ?_)
      ·
        exact X_vret rfl rfl (xle_of (congrArg (xm G xYf) (by first | (simp [iNot, c_1, c_2, c_4]; done) | (unfold iNot; grind)))) d_Reader_readNot_96
      ·
        refine X_aload_n d_Reader_readNot_63 rfl rfl ?_
        refine X_getI (v := (sum I) 11 5) fg_Reader_74 (show xYf 11 = some (sReader 12 13) from rfl) rfl (rfl) d_Reader_readNot_64 ?_
        refine X_bipush (v := 60) d_Reader_readNot_67 rfl ?_
        refine X_icmp_ne (tgt := 78) d_Reader_readNot_69 (by decide) (fun c_5 => ?_) (fun c_5 => ?_)
        ·
          refine X_sipush (v := 20003) d_Reader_readNot_78 rfl ?_
          refine X_istore_n d_Reader_readNot_81 rfl (by decide) [1, 2, 0] (L' := [(0, .ref (xg G 11)), (1, .ref (xg G t)), (2, .int 20003)]) rfl ?_
          refine X_aload_n d_Reader_readNot_82 rfl rfl ?_
          refine X_callVv (rest := []) (k_Reader_advance l G nn (by omega) (sum I)  (hS.2 _ h)) lk_Reader_advance ml_Reader_53 (xm_obj (show xYf 11 = some (sReader 12 13) from rfl)) rfl rfl (Nat.le_of_ble_eq_true rfl) (xRok (d' := d - 1) (by omega) (by decide)) ⟨Nat.le_refl _, Nat.le_refl _⟩ d_Reader_readNot_83 rfl ?_
          refine X_aload_n d_Reader_readNot_86 rfl rfl ?_
          refine X_aload_n d_Reader_readNot_87 rfl rfl ?_
          refine X_callVv (rest := []) (hS.1 _ nn (iAdv (sum I)) (by omega) (pOK_adv (hS.2 _ h))) lk_Reader_readSum ml_Reader_96 (xm_obj (show xYf 11 = some (sReader 12 13) from rfl)) rfl rfl (Nat.le_of_ble_eq_true rfl) (xRok (d' := d - 1) (by omega) (by decide)) ⟨Nat.le_refl _, Nat.le_refl _⟩ d_Reader_readNot_88 rfl ?_
          refine X_aload_n d_Reader_readNot_91 rfl rfl ?_
          refine X_iload_n d_Reader_readNot_92 rfl rfl ?_
          refine X_callVv (rest := []) (k_Text_add l G nn (by omega) t hs (sum (iAdv (sum I))) 20003) lk_Text_add ml_Reader_87 (xm_obj hs.1) rfl rfl (Nat.le_of_ble_eq_true rfl) (xRok (d' := d - 1) (by omega) (by decide)) ⟨Nat.le_refl _, Nat.le_refl _⟩ d_Reader_readNot_93 rfl ?_
          exact X_vret rfl rfl (xle_of (congrArg (xm G xYf) (by first | (simp [iNot, c_1, c_2, c_4, c_5]; done) | (unfold iNot; grind)))) d_Reader_readNot_96
        ·
          refine X_sipush (v := 20002) d_Reader_readNot_72 rfl ?_
          refine X_goto (tgt := 81) d_Reader_readNot_75 (by decide) ?_
          refine X_istore_n d_Reader_readNot_81 rfl (by decide) [1, 2, 0] (L' := [(0, .ref (xg G 11)), (1, .ref (xg G t)), (2, .int 20002)]) rfl ?_
          refine X_aload_n d_Reader_readNot_82 rfl rfl ?_
          refine X_callVv (rest := []) (k_Reader_advance l G nn (by omega) (sum I)  (hS.2 _ h)) lk_Reader_advance ml_Reader_53 (xm_obj (show xYf 11 = some (sReader 12 13) from rfl)) rfl rfl (Nat.le_of_ble_eq_true rfl) (xRok (d' := d - 1) (by omega) (by decide)) ⟨Nat.le_refl _, Nat.le_refl _⟩ d_Reader_readNot_83 rfl ?_
          refine X_aload_n d_Reader_readNot_86 rfl rfl ?_
          refine X_aload_n d_Reader_readNot_87 rfl rfl ?_
          refine X_callVv (rest := []) (hS.1 _ nn (iAdv (sum I)) (by omega) (pOK_adv (hS.2 _ h))) lk_Reader_readSum ml_Reader_96 (xm_obj (show xYf 11 = some (sReader 12 13) from rfl)) rfl rfl (Nat.le_of_ble_eq_true rfl) (xRok (d' := d - 1) (by omega) (by decide)) ⟨Nat.le_refl _, Nat.le_refl _⟩ d_Reader_readNot_88 rfl ?_
          refine X_aload_n d_Reader_readNot_91 rfl rfl ?_
          refine X_iload_n d_Reader_readNot_92 rfl rfl ?_
          refine X_callVv (rest := []) (k_Text_add l G nn (by omega) t hs (sum (iAdv (sum I))) 20002) lk_Text_add ml_Reader_87 (xm_obj hs.1) rfl rfl (Nat.le_of_ble_eq_true rfl) (xRok (d' := d - 1) (by omega) (by decide)) ⟨Nat.le_refl _, Nat.le_refl _⟩ d_Reader_readNot_93 rfl ?_
          exact X_vret rfl rfl (xle_of (congrArg (xm G xYf) (by first | (simp [iNot, c_1, c_2, c_4, c_5]; done) | (unfold iNot; grind)))) d_Reader_readNot_96
  ·
    refine X_aload_n d_Reader_readNot_10 rfl rfl ?_
    refine X_callV (v := .int (xb (decide (I 11 7 < 5)))) (rest := []) (k_Reader_opened l G nn (by omega) I  h) lk_Reader_opened ml_Reader_93 (xm_obj (show xYf 11 = some (sReader 12 13) from rfl)) rfl rfl (Nat.le_of_ble_eq_true rfl) (xRok (d' := d - 1) (by omega) (by decide)) ⟨Nat.le_refl _, Nat.le_refl _⟩ d_Reader_readNot_11 rfl ?_
    refine X_ifb_eq (tgt := 39) d_Reader_readNot_14 (by decide) (fun c_6 => ?_) (fun c_6 => ?_)
    ·
      have e_7 : iOpn I = iFail I := if_pos (Int32.not_lt.mp (of_decide_eq_false c_6))
      rw [e_7]
      exact X_vret rfl rfl (xle_of (congrArg (xm G xYf) (by first | (simp [iNot, c_1, of_decide_eq_false c_6, Int32.not_lt.mp (of_decide_eq_false c_6)]; done) | (unfold iNot; grind)))) d_Reader_readNot_39
    ·
      have e_8 : iOpn I = iAdv (iInc I) := if_neg (Int32.not_le.mpr (of_decide_eq_true c_6))
      have ho : o < 5 := pOK_o5 h (of_decide_eq_true c_6)
      rw [e_8]
      refine X_aload_n d_Reader_readNot_17 rfl rfl ?_
      refine X_aload_n d_Reader_readNot_18 rfl rfl ?_
      refine X_callVv (rest := []) ((hN ho).1 _ nn (iAdv (iInc I)) (by omega) (pOK_adv (pOK_inc h))) lk_Reader_readNot ml_Reader_90 (xm_obj (show xYf 11 = some (sReader 12 13) from rfl)) rfl rfl (Nat.le_of_ble_eq_true rfl) (xRok (d' := d - 1) (by omega) (by decide)) ⟨Nat.le_refl _, Nat.le_refl _⟩ d_Reader_readNot_19 rfl ?_
      refine X_aload_n d_Reader_readNot_22 rfl rfl ?_
      refine X_dup d_Reader_readNot_23 rfl ?_
      refine X_getI (v := (nt (iAdv (iInc I))) 11 7) fg_Reader_47 (show xYf 11 = some (sReader 12 13) from rfl) rfl (rfl) d_Reader_readNot_24 ?_
      refine X_iconst (v := 1) d_Reader_readNot_27 rfl ?_
      refine X_isub d_Reader_readNot_28 ?_
      refine X_putI fp_Reader_47 (show xYf 11 = some (sReader 12 13) from rfl) rfl d_Reader_readNot_29 ?_
      refine X_aload_n d_Reader_readNot_32 rfl rfl ?_
      refine X_sipush (v := 30000) d_Reader_readNot_33 rfl ?_
      refine X_callVv (rest := []) (k_Text_add l G nn (by omega) t hs (iDec (nt (iAdv (iInc I)))) 30000) lk_Text_add ml_Reader_87 (xm_obj hs.1) rfl rfl (Nat.le_of_ble_eq_true rfl) (xRok (d' := d - 1) (by omega) (by decide)) ⟨Nat.le_refl _, Nat.le_refl _⟩ d_Reader_readNot_36 rfl ?_
      exact X_vret rfl rfl (xle_of (congrArg (xm G xYf) (by first | (simp [iNot, c_1, of_decide_eq_true c_6, Int32.not_le.mpr (of_decide_eq_true c_6)]; done) | (unfold iNot; grind)))) d_Reader_readNot_39
theorem k_Reader_readOne (l : Launch) (G : xG) {n o t h h' H : Nat} (hs : tSh t) (ho5 : o ≤ 5) {one orr : xI → xI} (hO : o < 5 → cF l G h y_Reader_readOne b_Reader_readOne 2 n (o + 1) t one) (hR : o < 5 → cF l G h' y_Reader_readOr b_Reader_readOr 3 n (o + 1) t orr) (h5 : 5 ≤ H) (hh : h + 1 ≤ H) (hh' : h' + 1 ≤ H) : cF l G H y_Reader_readOne b_Reader_readOne 2 n o t (iOne one orr t) := by
  refine ⟨fun d nn I hd h => ?_, pOK_one hs ho5 (fun q => (hO q).2) (fun q => (hR q).2)⟩
  refine XM.of (by decide) (Nat.le_of_ble_eq_true rfl) (L := [(0, .ref (xg G 11)), (1, .ref (xg G t))]) rfl ?_
  refine X_aload_n d_Reader_readOne_0 rfl rfl ?_
  refine X_callV (v := .int (xb (decide (0 ≤ I 11 8)))) (rest := []) (k_Reader_failed l G nn (by omega) I ) lk_Reader_failed ml_Reader_67 (xm_obj (show xYf 11 = some (sReader 12 13) from rfl)) rfl rfl (Nat.le_of_ble_eq_true rfl) (xRok (d' := d - 1) (by omega) (by decide)) ⟨Nat.le_refl _, Nat.le_refl _⟩ d_Reader_readOne_1 rfl ?_
  refine X_ifb_eq (tgt := 8) d_Reader_readOne_4 (by decide) (fun c_1 => ?_) (fun c_1 => ?_)
  ·
    refine X_aload_n d_Reader_readOne_8 rfl rfl ?_
    refine X_getI (v := I 11 5) fg_Reader_74 (show xYf 11 = some (sReader 12 13) from rfl) rfl (rfl) d_Reader_readOne_9 ?_
    refine X_iconst (v := 1) d_Reader_readOne_12 rfl ?_
    refine X_icmp_ne (tgt := 31) d_Reader_readOne_13 (by decide) (fun c_2 => ?_) (fun c_2 => ?_)
    ·
      refine X_aload_n d_Reader_readOne_31 rfl rfl ?_
      refine X_getI (v := I 11 5) fg_Reader_74 (show xYf 11 = some (sReader 12 13) from rfl) rfl (rfl) d_Reader_readOne_32 ?_
      refine X_sipush (v := 134) d_Reader_readOne_35 rfl ?_
      refine X_icmp_lt (tgt := 74) d_Reader_readOne_38 (by decide) (fun c_3 => ?_) (fun c_3 => ?_)
      ·
        refine X_aload_n d_Reader_readOne_74 rfl rfl ?_
        refine X_getI (v := I 11 5) fg_Reader_74 (show xYf 11 = some (sReader 12 13) from rfl) rfl (rfl) d_Reader_readOne_75 ?_
        refine X_bipush (v := 45) d_Reader_readOne_78 rfl ?_
        refine X_icmp_ne (tgt := 115) d_Reader_readOne_80 (by decide) (fun c_4 => ?_) (fun c_4 => ?_)
        ·
          refine X_aload_n d_Reader_readOne_115 rfl rfl ?_
          refine X_getI (v := I 11 5) fg_Reader_74 (show xYf 11 = some (sReader 12 13) from rfl) rfl (rfl) d_Reader_readOne_116 ?_
          refine X_bipush (v := 40) d_Reader_readOne_119 rfl ?_
          refine X_icmp_ne (tgt := 155) d_Reader_readOne_121 (by decide) (fun c_5 => ?_) (fun c_5 => ?_)
          ·
            refine X_aload_n d_Reader_readOne_155 rfl rfl ?_
            refine X_callVv (rest := []) (k_Reader_fail l G nn (by omega) I ) lk_Reader_fail ml_Reader_77 (xm_obj (show xYf 11 = some (sReader 12 13) from rfl)) rfl rfl (Nat.le_of_ble_eq_true rfl) (xRok (d' := d - 1) (by omega) (by decide)) ⟨Nat.le_refl _, Nat.le_refl _⟩ d_Reader_readOne_156 rfl ?_
            exact X_vret rfl rfl (xle_of (congrArg (xm G xYf) (by first | (simp [iOne, c_1, c_2, c_3, Int32.not_le.mpr c_3, c_4, c_5]; done) | (unfold iOne; grind)))) d_Reader_readOne_159
          ·
            refine X_aload_n d_Reader_readOne_124 rfl rfl ?_
            refine X_callV (v := .int (xb (decide (I 11 7 < 5)))) (rest := []) (k_Reader_opened l G nn (by omega) I  h) lk_Reader_opened ml_Reader_93 (xm_obj (show xYf 11 = some (sReader 12 13) from rfl)) rfl rfl (Nat.le_of_ble_eq_true rfl) (xRok (d' := d - 1) (by omega) (by decide)) ⟨Nat.le_refl _, Nat.le_refl _⟩ d_Reader_readOne_125 rfl ?_
            refine X_ifb_eq (tgt := 159) d_Reader_readOne_128 (by decide) (fun c_6 => ?_) (fun c_6 => ?_)
            ·
              have e_7 : iOpn I = iFail I := if_pos (Int32.not_lt.mp (of_decide_eq_false c_6))
              rw [e_7]
              exact X_vret rfl rfl (xle_of (congrArg (xm G xYf) (by first | (simp [iOne, c_1, c_2, c_3, Int32.not_le.mpr c_3, c_4, c_5, of_decide_eq_false c_6, Int32.not_lt.mp (of_decide_eq_false c_6)]; done) | (unfold iOne; grind)))) d_Reader_readOne_159
            ·
              have e_8 : iOpn I = iAdv (iInc I) := if_neg (Int32.not_le.mpr (of_decide_eq_true c_6))
              have ho : o < 5 := pOK_o5 h (of_decide_eq_true c_6)
              rw [e_8]
              refine X_aload_n d_Reader_readOne_131 rfl rfl ?_
              refine X_aload_n d_Reader_readOne_132 rfl rfl ?_
              refine X_callVv (rest := []) ((hR ho).1 _ nn (iAdv (iInc I)) (by omega) (pOK_adv (pOK_inc h))) lk_Reader_readOr ml_Reader_60 (xm_obj (show xYf 11 = some (sReader 12 13) from rfl)) rfl rfl (Nat.le_of_ble_eq_true rfl) (xRok (d' := d - 1) (by omega) (by decide)) ⟨Nat.le_refl _, Nat.le_refl _⟩ d_Reader_readOne_133 rfl ?_
              refine X_aload_n d_Reader_readOne_136 rfl rfl ?_
              refine X_dup d_Reader_readOne_137 rfl ?_
              refine X_getI (v := (orr (iAdv (iInc I))) 11 7) fg_Reader_47 (show xYf 11 = some (sReader 12 13) from rfl) rfl (rfl) d_Reader_readOne_138 ?_
              refine X_iconst (v := 1) d_Reader_readOne_141 rfl ?_
              refine X_isub d_Reader_readOne_142 ?_
              refine X_putI fp_Reader_47 (show xYf 11 = some (sReader 12 13) from rfl) rfl d_Reader_readOne_143 ?_
              refine X_aload_n d_Reader_readOne_146 rfl rfl ?_
              refine X_bipush (v := 41) d_Reader_readOne_147 rfl ?_
              refine X_callVv (rest := []) (k_Reader_expect l G nn (by omega) (iDec (orr (iAdv (iInc I)))) 41 (pOK_dec ((hR ho).2 _ (pOK_adv (pOK_inc h))))) lk_Reader_expect ml_Reader_56 (xm_obj (show xYf 11 = some (sReader 12 13) from rfl)) rfl rfl (Nat.le_of_ble_eq_true rfl) (xRok (d' := d - 1) (by omega) (by decide)) ⟨Nat.le_refl _, Nat.le_refl _⟩ d_Reader_readOne_149 rfl ?_
              refine X_goto (tgt := 159) d_Reader_readOne_152 (by decide) ?_
              exact X_vret rfl rfl (xle_of (congrArg (xm G xYf) (by first | (simp [iOne, c_1, c_2, c_3, Int32.not_le.mpr c_3, c_4, c_5, of_decide_eq_true c_6, Int32.not_le.mpr (of_decide_eq_true c_6)]; done) | (unfold iOne; grind)))) d_Reader_readOne_159
        ·
          refine X_aload_n d_Reader_readOne_83 rfl rfl ?_
          refine X_callV (v := .int (xb (decide (I 11 7 < 5)))) (rest := []) (k_Reader_opened l G nn (by omega) I  h) lk_Reader_opened ml_Reader_93 (xm_obj (show xYf 11 = some (sReader 12 13) from rfl)) rfl rfl (Nat.le_of_ble_eq_true rfl) (xRok (d' := d - 1) (by omega) (by decide)) ⟨Nat.le_refl _, Nat.le_refl _⟩ d_Reader_readOne_84 rfl ?_
          refine X_ifb_eq (tgt := 159) d_Reader_readOne_87 (by decide) (fun c_9 => ?_) (fun c_9 => ?_)
          ·
            have e_10 : iOpn I = iFail I := if_pos (Int32.not_lt.mp (of_decide_eq_false c_9))
            rw [e_10]
            exact X_vret rfl rfl (xle_of (congrArg (xm G xYf) (by first | (simp [iOne, c_1, c_2, c_3, Int32.not_le.mpr c_3, c_4, of_decide_eq_false c_9, Int32.not_lt.mp (of_decide_eq_false c_9)]; done) | (unfold iOne; grind)))) d_Reader_readOne_159
          ·
            have e_11 : iOpn I = iAdv (iInc I) := if_neg (Int32.not_le.mpr (of_decide_eq_true c_9))
            have ho : o < 5 := pOK_o5 h (of_decide_eq_true c_9)
            rw [e_11]
            refine X_aload_n d_Reader_readOne_90 rfl rfl ?_
            refine X_aload_n d_Reader_readOne_91 rfl rfl ?_
            refine X_callVv (rest := []) ((hO ho).1 _ nn (iAdv (iInc I)) (by omega) (pOK_adv (pOK_inc h))) lk_Reader_readOne ml_Reader_102 (xm_obj (show xYf 11 = some (sReader 12 13) from rfl)) rfl rfl (Nat.le_of_ble_eq_true rfl) (xRok (d' := d - 1) (by omega) (by decide)) ⟨Nat.le_refl _, Nat.le_refl _⟩ d_Reader_readOne_92 rfl ?_
            refine X_aload_n d_Reader_readOne_95 rfl rfl ?_
            refine X_dup d_Reader_readOne_96 rfl ?_
            refine X_getI (v := (one (iAdv (iInc I))) 11 7) fg_Reader_47 (show xYf 11 = some (sReader 12 13) from rfl) rfl (rfl) d_Reader_readOne_97 ?_
            refine X_iconst (v := 1) d_Reader_readOne_100 rfl ?_
            refine X_isub d_Reader_readOne_101 ?_
            refine X_putI fp_Reader_47 (show xYf 11 = some (sReader 12 13) from rfl) rfl d_Reader_readOne_102 ?_
            refine X_aload_n d_Reader_readOne_105 rfl rfl ?_
            refine X_sipush (v := 30001) d_Reader_readOne_106 rfl ?_
            refine X_callVv (rest := []) (k_Text_add l G nn (by omega) t hs (iDec (one (iAdv (iInc I)))) 30001) lk_Text_add ml_Reader_87 (xm_obj hs.1) rfl rfl (Nat.le_of_ble_eq_true rfl) (xRok (d' := d - 1) (by omega) (by decide)) ⟨Nat.le_refl _, Nat.le_refl _⟩ d_Reader_readOne_109 rfl ?_
            refine X_goto (tgt := 159) d_Reader_readOne_112 (by decide) ?_
            exact X_vret rfl rfl (xle_of (congrArg (xm G xYf) (by first | (simp [iOne, c_1, c_2, c_3, Int32.not_le.mpr c_3, c_4, of_decide_eq_true c_9, Int32.not_le.mpr (of_decide_eq_true c_9)]; done) | (unfold iOne; grind)))) d_Reader_readOne_159
      ·
        refine X_aload_n d_Reader_readOne_41 rfl rfl ?_
        refine X_getI (v := I 11 5) fg_Reader_74 (show xYf 11 = some (sReader 12 13) from rfl) rfl (rfl) d_Reader_readOne_42 ?_
        refine X_sipush (v := 139) d_Reader_readOne_45 rfl ?_
        refine X_icmp_gt (tgt := 74) d_Reader_readOne_48 (by decide) (fun c_12 => ?_) (fun c_12 => ?_)
        ·
          refine X_aload_n d_Reader_readOne_74 rfl rfl ?_
          refine X_getI (v := I 11 5) fg_Reader_74 (show xYf 11 = some (sReader 12 13) from rfl) rfl (rfl) d_Reader_readOne_75 ?_
          refine X_bipush (v := 45) d_Reader_readOne_78 rfl ?_
          refine X_icmp_ne (tgt := 115) d_Reader_readOne_80 (by decide) (fun c_13 => ?_) (fun c_13 => ?_)
          ·
            refine X_aload_n d_Reader_readOne_115 rfl rfl ?_
            refine X_getI (v := I 11 5) fg_Reader_74 (show xYf 11 = some (sReader 12 13) from rfl) rfl (rfl) d_Reader_readOne_116 ?_
            refine X_bipush (v := 40) d_Reader_readOne_119 rfl ?_
            refine X_icmp_ne (tgt := 155) d_Reader_readOne_121 (by decide) (fun c_14 => ?_) (fun c_14 => ?_)
            ·
              refine X_aload_n d_Reader_readOne_155 rfl rfl ?_
              refine X_callVv (rest := []) (k_Reader_fail l G nn (by omega) I ) lk_Reader_fail ml_Reader_77 (xm_obj (show xYf 11 = some (sReader 12 13) from rfl)) rfl rfl (Nat.le_of_ble_eq_true rfl) (xRok (d' := d - 1) (by omega) (by decide)) ⟨Nat.le_refl _, Nat.le_refl _⟩ d_Reader_readOne_156 rfl ?_
              exact X_vret rfl rfl (xle_of (congrArg (xm G xYf) (by first | (simp [iOne, c_1, c_2, c_3, Int32.not_lt.mp c_3, c_12, Int32.not_le.mpr c_12, c_13, c_14]; done) | (unfold iOne; grind)))) d_Reader_readOne_159
            ·
              refine X_aload_n d_Reader_readOne_124 rfl rfl ?_
              refine X_callV (v := .int (xb (decide (I 11 7 < 5)))) (rest := []) (k_Reader_opened l G nn (by omega) I  h) lk_Reader_opened ml_Reader_93 (xm_obj (show xYf 11 = some (sReader 12 13) from rfl)) rfl rfl (Nat.le_of_ble_eq_true rfl) (xRok (d' := d - 1) (by omega) (by decide)) ⟨Nat.le_refl _, Nat.le_refl _⟩ d_Reader_readOne_125 rfl ?_
              refine X_ifb_eq (tgt := 159) d_Reader_readOne_128 (by decide) (fun c_15 => ?_) (fun c_15 => ?_)
              ·
                have e_16 : iOpn I = iFail I := if_pos (Int32.not_lt.mp (of_decide_eq_false c_15))
                rw [e_16]
                exact X_vret rfl rfl (xle_of (congrArg (xm G xYf) (by first | (simp [iOne, c_1, c_2, c_3, Int32.not_lt.mp c_3, c_12, Int32.not_le.mpr c_12, c_13, c_14, of_decide_eq_false c_15, Int32.not_lt.mp (of_decide_eq_false c_15)]; done) | (unfold iOne; grind)))) d_Reader_readOne_159
              ·
                have e_17 : iOpn I = iAdv (iInc I) := if_neg (Int32.not_le.mpr (of_decide_eq_true c_15))
                have ho : o < 5 := pOK_o5 h (of_decide_eq_true c_15)
                rw [e_17]
                refine X_aload_n d_Reader_readOne_131 rfl rfl ?_
                refine X_aload_n d_Reader_readOne_132 rfl rfl ?_
                refine X_callVv (rest := []) ((hR ho).1 _ nn (iAdv (iInc I)) (by omega) (pOK_adv (pOK_inc h))) lk_Reader_readOr ml_Reader_60 (xm_obj (show xYf 11 = some (sReader 12 13) from rfl)) rfl rfl (Nat.le_of_ble_eq_true rfl) (xRok (d' := d - 1) (by omega) (by decide)) ⟨Nat.le_refl _, Nat.le_refl _⟩ d_Reader_readOne_133 rfl ?_
                refine X_aload_n d_Reader_readOne_136 rfl rfl ?_
                refine X_dup d_Reader_readOne_137 rfl ?_
                refine X_getI (v := (orr (iAdv (iInc I))) 11 7) fg_Reader_47 (show xYf 11 = some (sReader 12 13) from rfl) rfl (rfl) d_Reader_readOne_138 ?_
                refine X_iconst (v := 1) d_Reader_readOne_141 rfl ?_
                refine X_isub d_Reader_readOne_142 ?_
                refine X_putI fp_Reader_47 (show xYf 11 = some (sReader 12 13) from rfl) rfl d_Reader_readOne_143 ?_
                refine X_aload_n d_Reader_readOne_146 rfl rfl ?_
                refine X_bipush (v := 41) d_Reader_readOne_147 rfl ?_
                refine X_callVv (rest := []) (k_Reader_expect l G nn (by omega) (iDec (orr (iAdv (iInc I)))) 41 (pOK_dec ((hR ho).2 _ (pOK_adv (pOK_inc h))))) lk_Reader_expect ml_Reader_56 (xm_obj (show xYf 11 = some (sReader 12 13) from rfl)) rfl rfl (Nat.le_of_ble_eq_true rfl) (xRok (d' := d - 1) (by omega) (by decide)) ⟨Nat.le_refl _, Nat.le_refl _⟩ d_Reader_readOne_149 rfl ?_
                refine X_goto (tgt := 159) d_Reader_readOne_152 (by decide) ?_
                exact X_vret rfl rfl (xle_of (congrArg (xm G xYf) (by first | (simp [iOne, c_1, c_2, c_3, Int32.not_lt.mp c_3, c_12, Int32.not_le.mpr c_12, c_13, c_14, of_decide_eq_true c_15, Int32.not_le.mpr (of_decide_eq_true c_15)]; done) | (unfold iOne; grind)))) d_Reader_readOne_159
          ·
            refine X_aload_n d_Reader_readOne_83 rfl rfl ?_
            refine X_callV (v := .int (xb (decide (I 11 7 < 5)))) (rest := []) (k_Reader_opened l G nn (by omega) I  h) lk_Reader_opened ml_Reader_93 (xm_obj (show xYf 11 = some (sReader 12 13) from rfl)) rfl rfl (Nat.le_of_ble_eq_true rfl) (xRok (d' := d - 1) (by omega) (by decide)) ⟨Nat.le_refl _, Nat.le_refl _⟩ d_Reader_readOne_84 rfl ?_
            refine X_ifb_eq (tgt := 159) d_Reader_readOne_87 (by decide) (fun c_18 => ?_) (fun c_18 => ?_)
            ·
              have e_19 : iOpn I = iFail I := if_pos (Int32.not_lt.mp (of_decide_eq_false c_18))
              rw [e_19]
              exact X_vret rfl rfl (xle_of (congrArg (xm G xYf) (by first | (simp [iOne, c_1, c_2, c_3, Int32.not_lt.mp c_3, c_12, Int32.not_le.mpr c_12, c_13, of_decide_eq_false c_18, Int32.not_lt.mp (of_decide_eq_false c_18)]; done) | (unfold iOne; grind)))) d_Reader_readOne_159
            ·
              have e_20 : iOpn I = iAdv (iInc I) := if_neg (Int32.not_le.mpr (of_decide_eq_true c_18))
              have ho : o < 5 := pOK_o5 h (of_decide_eq_true c_18)
              rw [e_20]
              refine X_aload_n d_Reader_readOne_90 rfl rfl ?_
              refine X_aload_n d_Reader_readOne_91 rfl rfl ?_
              refine X_callVv (rest := []) ((hO ho).1 _ nn (iAdv (iInc I)) (by omega) (pOK_adv (pOK_inc h))) lk_Reader_readOne ml_Reader_102 (xm_obj (show xYf 11 = some (sReader 12 13) from rfl)) rfl rfl (Nat.le_of_ble_eq_true rfl) (xRok (d' := d - 1) (by omega) (by decide)) ⟨Nat.le_refl _, Nat.le_refl _⟩ d_Reader_readOne_92 rfl ?_
              refine X_aload_n d_Reader_readOne_95 rfl rfl ?_
              refine X_dup d_Reader_readOne_96 rfl ?_
              refine X_getI (v := (one (iAdv (iInc I))) 11 7) fg_Reader_47 (show xYf 11 = some (sReader 12 13) from rfl) rfl (rfl) d_Reader_readOne_97 ?_
              refine X_iconst (v := 1) d_Reader_readOne_100 rfl ?_
              refine X_isub d_Reader_readOne_101 ?_
              refine X_putI fp_Reader_47 (show xYf 11 = some (sReader 12 13) from rfl) rfl d_Reader_readOne_102 ?_
              refine X_aload_n d_Reader_readOne_105 rfl rfl ?_
              refine X_sipush (v := 30001) d_Reader_readOne_106 rfl ?_
              refine X_callVv (rest := []) (k_Text_add l G nn (by omega) t hs (iDec (one (iAdv (iInc I)))) 30001) lk_Text_add ml_Reader_87 (xm_obj hs.1) rfl rfl (Nat.le_of_ble_eq_true rfl) (xRok (d' := d - 1) (by omega) (by decide)) ⟨Nat.le_refl _, Nat.le_refl _⟩ d_Reader_readOne_109 rfl ?_
              refine X_goto (tgt := 159) d_Reader_readOne_112 (by decide) ?_
              exact X_vret rfl rfl (xle_of (congrArg (xm G xYf) (by first | (simp [iOne, c_1, c_2, c_3, Int32.not_lt.mp c_3, c_12, Int32.not_le.mpr c_12, c_13, of_decide_eq_true c_18, Int32.not_le.mpr (of_decide_eq_true c_18)]; done) | (unfold iOne; grind)))) d_Reader_readOne_159
        ·
          refine X_aload_n d_Reader_readOne_51 rfl rfl ?_
          refine X_sipush (v := 10000) d_Reader_readOne_52 rfl ?_
          refine X_aload_n d_Reader_readOne_55 rfl rfl ?_
          refine X_getI (v := I 11 5) fg_Reader_74 (show xYf 11 = some (sReader 12 13) from rfl) rfl (rfl) d_Reader_readOne_56 ?_
          refine X_iadd d_Reader_readOne_59 ?_
          refine X_sipush (v := 134) d_Reader_readOne_60 rfl ?_
          refine X_isub d_Reader_readOne_63 ?_
          refine X_callVv (rest := []) (k_Text_add l G nn (by omega) t hs I ((10000 + (I 11 5)) - 134)) lk_Text_add ml_Reader_87 (xm_obj hs.1) rfl rfl (Nat.le_of_ble_eq_true rfl) (xRok (d' := d - 1) (by omega) (by decide)) ⟨Nat.le_refl _, Nat.le_refl _⟩ d_Reader_readOne_64 rfl ?_
          refine X_aload_n d_Reader_readOne_67 rfl rfl ?_
          refine X_callVv (rest := []) (k_Reader_advance l G nn (by omega) (iAdd t ((10000 + (I 11 5)) - 134) I)  (pOK_add h hs ((10000 + (I 11 5)) - 134))) lk_Reader_advance ml_Reader_53 (xm_obj (show xYf 11 = some (sReader 12 13) from rfl)) rfl rfl (Nat.le_of_ble_eq_true rfl) (xRok (d' := d - 1) (by omega) (by decide)) ⟨Nat.le_refl _, Nat.le_refl _⟩ d_Reader_readOne_68 rfl ?_
          refine X_goto (tgt := 159) d_Reader_readOne_71 (by decide) ?_
          exact X_vret rfl rfl (xle_of (congrArg (xm G xYf) (by first | (simp [iOne, c_1, c_2, c_3, Int32.not_lt.mp c_3, c_12, Int32.not_lt.mp c_12]; done) | (unfold iOne; grind)))) d_Reader_readOne_159
    ·
      refine X_aload_n d_Reader_readOne_16 rfl rfl ?_
      refine X_aload_n d_Reader_readOne_17 rfl rfl ?_
      refine X_getI (v := I 11 6) fg_Reader_105 (show xYf 11 = some (sReader 12 13) from rfl) rfl (rfl) d_Reader_readOne_18 ?_
      refine X_callVv (rest := []) (k_Text_add l G nn (by omega) t hs I (I 11 6)) lk_Text_add ml_Reader_87 (xm_obj hs.1) rfl rfl (Nat.le_of_ble_eq_true rfl) (xRok (d' := d - 1) (by omega) (by decide)) ⟨Nat.le_refl _, Nat.le_refl _⟩ d_Reader_readOne_21 rfl ?_
      refine X_aload_n d_Reader_readOne_24 rfl rfl ?_
      refine X_callVv (rest := []) (k_Reader_advance l G nn (by omega) (iAdd t (I 11 6) I)  (pOK_add h hs (I 11 6))) lk_Reader_advance ml_Reader_53 (xm_obj (show xYf 11 = some (sReader 12 13) from rfl)) rfl rfl (Nat.le_of_ble_eq_true rfl) (xRok (d' := d - 1) (by omega) (by decide)) ⟨Nat.le_refl _, Nat.le_refl _⟩ d_Reader_readOne_25 rfl ?_
      refine X_goto (tgt := 159) d_Reader_readOne_28 (by decide) ?_
      exact X_vret rfl rfl (xle_of (congrArg (xm G xYf) (by first | (simp [iOne, c_1, c_2]; done) | (unfold iOne; grind)))) d_Reader_readOne_159
  ·
    exact X_vret rfl rfl (xle_of (congrArg (xm G xYf) (by first | (simp [iOne, c_1]; done) | (unfold iOne; grind)))) d_Reader_readOne_7
def iSm (one : xI → xI) (t : Nat) : xI → xI := iSum (iLev one t 42 20006) t
def iOr (nt : xI → xI) (t : Nat) : xI → xI := iLev (iLev nt t 132 20001) t 131 20000
def iLv (t : Nat) : Nat → (xI → xI) × (xI → xI)
  | 0 => (iOne id id t, iNot id (iSm (iOne id id t) t) t)
  | k + 1 => (iOne (iLv t k).1 (iOr (iLv t k).2 t) t, iNot (iLv t k).2 (iSm (iOne (iLv t k).1 (iOr (iLv t k).2 t) t) t) t)
theorem k_iLv (l : Launch) (G : xG) {n t : Nat} (hs : tSh t) : ∀ k o, o + k = 5 → cF l G (5 + 6 * k) y_Reader_readOne b_Reader_readOne 2 n o t (iLv t k).1 ∧ cF l G (8 + 6 * k) y_Reader_readNot b_Reader_readNot 3 n o t (iLv t k).2
  | 0, o, ho => by
    have h1 : cF l G 5 y_Reader_readOne b_Reader_readOne 2 n o t (iOne id id t) := k_Reader_readOne l G (h := 0) (h' := 0) hs (by omega) (fun q => absurd q (by omega)) (fun q => absurd q (by omega)) (by omega) (by omega) (by omega)
    have h2 := k_Reader_readTerm l G hs (by omega) h1 (by omega)
    have h3 := k_Reader_readSum l G hs (by omega) h2 (by omega)
    exact ⟨h1, k_Reader_readNot l G (h' := 0) hs (by omega) (fun q => absurd q (by omega)) h3 (by omega) (by omega) (by omega)⟩
  | k + 1, o, ho => by
    obtain ⟨g1, g2⟩ := k_iLv l G hs k (o + 1) (by omega)
    have g3 := k_Reader_readAnd l G hs (by omega) g2 (by omega)
    have g4 := k_Reader_readOr l G hs (by omega) g3 (by omega)
    have h1 : cF l G (5 + 6 * (k + 1)) y_Reader_readOne b_Reader_readOne 2 n o t (iOne (iLv t k).1 (iOr (iLv t k).2 t) t) := k_Reader_readOne l G hs (by omega) (fun _ => g1) (fun _ => g4) (by omega) (by omega) (by omega)
    have h2 := k_Reader_readTerm l G hs (by omega) h1 (by omega)
    have h3 := k_Reader_readSum l G hs (by omega) h2 (by omega)
    exact ⟨h1, k_Reader_readNot l G hs (by omega) (fun _ => g2) h3 (by omega) (by omega) (by omega)⟩
def iE (t : Nat) : xI → xI := iOr (iLv t 5).2 t
theorem k_iE (l : Launch) (G : xG) {n t : Nat} (hs : tSh t) : cF l G 40 y_Reader_readOr b_Reader_readOr 3 n 0 t (iE t) := by
  have g2 := (k_iLv l G (n := n) hs 5 0 rfl).2
  exact k_Reader_readOr l G hs (by omega) (k_Reader_readAnd l G hs (by omega) g2 (by omega)) (by omega)
def iBeg (t : Nat) (I : xI) : xI := xw (xw (xw (iClr t I) 11 3 0) 11 7 0) 11 8 (-1)
theorem pOK_beg {n t : Nat} {I : xI} (hs : tSh t) (hn : n ≤ 160) (h2 : I 11 2 = nI n) : pOK n 0 (iBeg t I) := by
  have := hs.2.2.2
  refine ⟨hn, ?_, ⟨0, Nat.zero_le _, ?_⟩, ?_⟩ <;> simp only [iBeg, iClr]
  · rw [xw_k _ _ _ (by decide), xw_k _ _ _ (by decide), xw_k _ _ _ (by decide), xw_a _ _ _ _ (by omega), xw_a _ _ _ _ (by omega)]; exact h2
  · rw [xw_k _ _ _ (by decide), xw_k _ _ _ (by decide), xw_s]; rfl
  · rw [xw_k _ _ _ (by decide), xw_s]; rfl
def iPart (t : Nat) (w : Int32) (I : xI) : xI := iEnd t (iExp 59 (iE t (iExp w I)))
def iRead (t : Nat) (I : xI) : xI := iExp 0 (iPart t 130 (iPart t 129 (iPart t 128 (iAdv (iBeg t I)))))
theorem pOK_part {n t : Nat} {I : xI} (l : Launch) (G : xG) (hs : tSh t) (h : pOK n 0 I) (w : Int32) : pOK n 0 (iPart t w I) := pOK_end (pOK_exp ((k_iE l G hs).2 _ (pOK_exp h w)) 59) hs
theorem k_Reader_read (l : Launch) (G : xG) {d : Nat} (nn : Nat) (hd : 41 ≤ d) {n t : Nat} (hs : tSh t) (I : xI) (hn : n ≤ 160) (h2 : I 11 2 = nI n) : XM l G d y_Reader_read b_Reader_read 3 (some .int) 0 0 xK0 [.ref (xg G 11), .ref (xg G t)] nn (xm G xYf I) (some (.int (iRead t I 11 8))) nn (xm G xYf (iRead t I)) := by
  have h15 := hs.2.2.2
  have hE := k_iE l G (n := n) hs
  refine XM.of (by decide) (Nat.le_of_ble_eq_true rfl) (L := [(0, .ref (xg G 11)), (1, .ref (xg G t))]) rfl ?_
  refine X_aload_n d_Reader_read_0 rfl rfl ?_
  refine X_callVv (rest := []) (k_Text_clear l G nn (by omega) t hs I) lk_Text_clear ml_Reader_39 (xm_obj hs.1) rfl rfl (Nat.le_of_ble_eq_true rfl) (xRok (d' := d - 1) (by omega) (by decide)) ⟨Nat.le_refl _, Nat.le_refl _⟩ d_Reader_read_1 rfl ?_
  refine X_aload_n d_Reader_read_4 rfl rfl ?_
  refine X_iconst (v := 0) d_Reader_read_5 rfl ?_
  refine X_putI fp_Reader_44 (show xYf 11 = some (sReader 12 13) from rfl) rfl d_Reader_read_6 ?_
  refine X_aload_n d_Reader_read_9 rfl rfl ?_
  refine X_iconst (v := 0) d_Reader_read_10 rfl ?_
  refine X_putI fp_Reader_47 (show xYf 11 = some (sReader 12 13) from rfl) rfl d_Reader_read_11 ?_
  refine X_aload_n d_Reader_read_14 rfl rfl ?_
  refine X_iconst (v := -1) d_Reader_read_15 rfl ?_
  refine X_putI fp_Reader_50 (show xYf 11 = some (sReader 12 13) from rfl) rfl d_Reader_read_16 ?_
  refine X_aload_n d_Reader_read_19 rfl rfl ?_
  refine X_callVv (rest := []) (k_Reader_advance l G nn (by omega) (iBeg t I)  (pOK_beg hs hn h2)) lk_Reader_advance ml_Reader_53 (xm_obj (show xYf 11 = some (sReader 12 13) from rfl)) rfl rfl (Nat.le_of_ble_eq_true rfl) (xRok (d' := d - 1) (by omega) (by decide)) ⟨Nat.le_refl _, Nat.le_refl _⟩ d_Reader_read_20 rfl ?_
  refine X_iconst (v := 0) d_Reader_read_23 rfl ?_
  refine X_istore_n d_Reader_read_24 rfl (by decide) [1, 2, 0] (L' := [(0, .ref (xg G 11)), (1, .ref (xg G t)), (2, .int 0)]) rfl ?_
  refine X_iload_n d_Reader_read_25 rfl rfl ?_
  refine X_iconst (v := 3) d_Reader_read_26 rfl ?_
  refine X_icmp_ge (tgt := 60) d_Reader_read_27 (by decide) (fun c_1 => absurd c_1 (by decide)) (fun _ => ?_)
  refine X_aload_n d_Reader_read_30 rfl rfl ?_
  refine X_sipush (v := 128) d_Reader_read_31 rfl ?_
  refine X_iload_n d_Reader_read_34 rfl rfl ?_
  refine X_iadd d_Reader_read_35 ?_
  refine X_callVv (rest := []) (k_Reader_expect l G nn (by omega) (iAdv (iBeg t I)) 128 (pOK_adv (pOK_beg hs hn h2))) lk_Reader_expect ml_Reader_56 (xm_obj (show xYf 11 = some (sReader 12 13) from rfl)) rfl rfl (Nat.le_of_ble_eq_true rfl) (xRok (d' := d - 1) (by omega) (by decide)) ⟨Nat.le_refl _, Nat.le_refl _⟩ d_Reader_read_36 rfl ?_
  refine X_aload_n d_Reader_read_39 rfl rfl ?_
  refine X_aload_n d_Reader_read_40 rfl rfl ?_
  refine X_callVv (rest := []) (hE.1 _ nn (iExp 128 (iAdv (iBeg t I))) (by omega) (pOK_exp (pOK_adv (pOK_beg hs hn h2)) 128)) lk_Reader_readOr ml_Reader_60 (xm_obj (show xYf 11 = some (sReader 12 13) from rfl)) rfl rfl (Nat.le_of_ble_eq_true rfl) (xRok (d' := d - 1) (by omega) (by decide)) ⟨Nat.le_refl _, Nat.le_refl _⟩ d_Reader_read_41 rfl ?_
  refine X_aload_n d_Reader_read_44 rfl rfl ?_
  refine X_bipush (v := 59) d_Reader_read_45 rfl ?_
  refine X_callVv (rest := []) (k_Reader_expect l G nn (by omega) ((iE t) (iExp 128 (iAdv (iBeg t I)))) 59 (hE.2 _ (pOK_exp (pOK_adv (pOK_beg hs hn h2)) 128))) lk_Reader_expect ml_Reader_56 (xm_obj (show xYf 11 = some (sReader 12 13) from rfl)) rfl rfl (Nat.le_of_ble_eq_true rfl) (xRok (d' := d - 1) (by omega) (by decide)) ⟨Nat.le_refl _, Nat.le_refl _⟩ d_Reader_read_47 rfl ?_
  refine X_aload_n d_Reader_read_50 rfl rfl ?_
  refine X_callVv (rest := []) (k_Text_endPart l G nn (by omega) t hs (iExp 59 ((iE t) (iExp 128 (iAdv (iBeg t I)))))) lk_Text_endPart ml_Reader_64 (xm_obj hs.1) rfl rfl (Nat.le_of_ble_eq_true rfl) (xRok (d' := d - 1) (by omega) (by decide)) ⟨Nat.le_refl _, Nat.le_refl _⟩ d_Reader_read_51 rfl ?_
  refine X_iinc d_Reader_read_54 rfl (v := 1) rfl (by decide) [1, 2, 0] (L' := [(0, .ref (xg G 11)), (1, .ref (xg G t)), (2, .int 1)]) rfl ?_
  refine X_goto (tgt := 25) d_Reader_read_57 (by decide) ?_
  refine X_iload_n d_Reader_read_25 rfl rfl ?_
  refine X_iconst (v := 3) d_Reader_read_26 rfl ?_
  refine X_icmp_ge (tgt := 60) d_Reader_read_27 (by decide) (fun c_2 => absurd c_2 (by decide)) (fun _ => ?_)
  refine X_aload_n d_Reader_read_30 rfl rfl ?_
  refine X_sipush (v := 128) d_Reader_read_31 rfl ?_
  refine X_iload_n d_Reader_read_34 rfl rfl ?_
  refine X_iadd d_Reader_read_35 ?_
  refine X_callVv (rest := []) (k_Reader_expect l G nn (by omega) (iEnd t (iExp 59 ((iE t) (iExp 128 (iAdv (iBeg t I)))))) 129 (pOK_end (pOK_exp (hE.2 _ (pOK_exp (pOK_adv (pOK_beg hs hn h2)) 128)) 59) hs)) lk_Reader_expect ml_Reader_56 (xm_obj (show xYf 11 = some (sReader 12 13) from rfl)) rfl rfl (Nat.le_of_ble_eq_true rfl) (xRok (d' := d - 1) (by omega) (by decide)) ⟨Nat.le_refl _, Nat.le_refl _⟩ d_Reader_read_36 rfl ?_
  refine X_aload_n d_Reader_read_39 rfl rfl ?_
  refine X_aload_n d_Reader_read_40 rfl rfl ?_
  refine X_callVv (rest := []) (hE.1 _ nn (iExp 129 (iEnd t (iExp 59 ((iE t) (iExp 128 (iAdv (iBeg t I))))))) (by omega) (pOK_exp (pOK_end (pOK_exp (hE.2 _ (pOK_exp (pOK_adv (pOK_beg hs hn h2)) 128)) 59) hs) 129)) lk_Reader_readOr ml_Reader_60 (xm_obj (show xYf 11 = some (sReader 12 13) from rfl)) rfl rfl (Nat.le_of_ble_eq_true rfl) (xRok (d' := d - 1) (by omega) (by decide)) ⟨Nat.le_refl _, Nat.le_refl _⟩ d_Reader_read_41 rfl ?_
  refine X_aload_n d_Reader_read_44 rfl rfl ?_
  refine X_bipush (v := 59) d_Reader_read_45 rfl ?_
  refine X_callVv (rest := []) (k_Reader_expect l G nn (by omega) ((iE t) (iExp 129 (iEnd t (iExp 59 ((iE t) (iExp 128 (iAdv (iBeg t I)))))))) 59 (hE.2 _ (pOK_exp (pOK_end (pOK_exp (hE.2 _ (pOK_exp (pOK_adv (pOK_beg hs hn h2)) 128)) 59) hs) 129))) lk_Reader_expect ml_Reader_56 (xm_obj (show xYf 11 = some (sReader 12 13) from rfl)) rfl rfl (Nat.le_of_ble_eq_true rfl) (xRok (d' := d - 1) (by omega) (by decide)) ⟨Nat.le_refl _, Nat.le_refl _⟩ d_Reader_read_47 rfl ?_
  refine X_aload_n d_Reader_read_50 rfl rfl ?_
  refine X_callVv (rest := []) (k_Text_endPart l G nn (by omega) t hs (iExp 59 ((iE t) (iExp 129 (iEnd t (iExp 59 ((iE t) (iExp 128 (iAdv (iBeg t I)))))))))) lk_Text_endPart ml_Reader_64 (xm_obj hs.1) rfl rfl (Nat.le_of_ble_eq_true rfl) (xRok (d' := d - 1) (by omega) (by decide)) ⟨Nat.le_refl _, Nat.le_refl _⟩ d_Reader_read_51 rfl ?_
  refine X_iinc d_Reader_read_54 rfl (v := 2) rfl (by decide) [1, 2, 0] (L' := [(0, .ref (xg G 11)), (1, .ref (xg G t)), (2, .int 2)]) rfl ?_
  refine X_goto (tgt := 25) d_Reader_read_57 (by decide) ?_
  refine X_iload_n d_Reader_read_25 rfl rfl ?_
  refine X_iconst (v := 3) d_Reader_read_26 rfl ?_
  refine X_icmp_ge (tgt := 60) d_Reader_read_27 (by decide) (fun c_3 => absurd c_3 (by decide)) (fun _ => ?_)
  refine X_aload_n d_Reader_read_30 rfl rfl ?_
  refine X_sipush (v := 128) d_Reader_read_31 rfl ?_
  refine X_iload_n d_Reader_read_34 rfl rfl ?_
  refine X_iadd d_Reader_read_35 ?_
  refine X_callVv (rest := []) (k_Reader_expect l G nn (by omega) (iEnd t (iExp 59 ((iE t) (iExp 129 (iEnd t (iExp 59 ((iE t) (iExp 128 (iAdv (iBeg t I)))))))))) 130 (pOK_end (pOK_exp (hE.2 _ (pOK_exp (pOK_end (pOK_exp (hE.2 _ (pOK_exp (pOK_adv (pOK_beg hs hn h2)) 128)) 59) hs) 129)) 59) hs)) lk_Reader_expect ml_Reader_56 (xm_obj (show xYf 11 = some (sReader 12 13) from rfl)) rfl rfl (Nat.le_of_ble_eq_true rfl) (xRok (d' := d - 1) (by omega) (by decide)) ⟨Nat.le_refl _, Nat.le_refl _⟩ d_Reader_read_36 rfl ?_
  refine X_aload_n d_Reader_read_39 rfl rfl ?_
  refine X_aload_n d_Reader_read_40 rfl rfl ?_
  refine X_callVv (rest := []) (hE.1 _ nn (iExp 130 (iEnd t (iExp 59 ((iE t) (iExp 129 (iEnd t (iExp 59 ((iE t) (iExp 128 (iAdv (iBeg t I))))))))))) (by omega) (pOK_exp (pOK_end (pOK_exp (hE.2 _ (pOK_exp (pOK_end (pOK_exp (hE.2 _ (pOK_exp (pOK_adv (pOK_beg hs hn h2)) 128)) 59) hs) 129)) 59) hs) 130)) lk_Reader_readOr ml_Reader_60 (xm_obj (show xYf 11 = some (sReader 12 13) from rfl)) rfl rfl (Nat.le_of_ble_eq_true rfl) (xRok (d' := d - 1) (by omega) (by decide)) ⟨Nat.le_refl _, Nat.le_refl _⟩ d_Reader_read_41 rfl ?_
  refine X_aload_n d_Reader_read_44 rfl rfl ?_
  refine X_bipush (v := 59) d_Reader_read_45 rfl ?_
  refine X_callVv (rest := []) (k_Reader_expect l G nn (by omega) ((iE t) (iExp 130 (iEnd t (iExp 59 ((iE t) (iExp 129 (iEnd t (iExp 59 ((iE t) (iExp 128 (iAdv (iBeg t I)))))))))))) 59 (hE.2 _ (pOK_exp (pOK_end (pOK_exp (hE.2 _ (pOK_exp (pOK_end (pOK_exp (hE.2 _ (pOK_exp (pOK_adv (pOK_beg hs hn h2)) 128)) 59) hs) 129)) 59) hs) 130))) lk_Reader_expect ml_Reader_56 (xm_obj (show xYf 11 = some (sReader 12 13) from rfl)) rfl rfl (Nat.le_of_ble_eq_true rfl) (xRok (d' := d - 1) (by omega) (by decide)) ⟨Nat.le_refl _, Nat.le_refl _⟩ d_Reader_read_47 rfl ?_
  refine X_aload_n d_Reader_read_50 rfl rfl ?_
  refine X_callVv (rest := []) (k_Text_endPart l G nn (by omega) t hs (iExp 59 ((iE t) (iExp 130 (iEnd t (iExp 59 ((iE t) (iExp 129 (iEnd t (iExp 59 ((iE t) (iExp 128 (iAdv (iBeg t I)))))))))))))) lk_Text_endPart ml_Reader_64 (xm_obj hs.1) rfl rfl (Nat.le_of_ble_eq_true rfl) (xRok (d' := d - 1) (by omega) (by decide)) ⟨Nat.le_refl _, Nat.le_refl _⟩ d_Reader_read_51 rfl ?_
  refine X_iinc d_Reader_read_54 rfl (v := 3) rfl (by decide) [1, 2, 0] (L' := [(0, .ref (xg G 11)), (1, .ref (xg G t)), (2, .int 3)]) rfl ?_
  refine X_goto (tgt := 25) d_Reader_read_57 (by decide) ?_
  refine X_iload_n d_Reader_read_25 rfl rfl ?_
  refine X_iconst (v := 3) d_Reader_read_26 rfl ?_
  refine X_icmp_ge (tgt := 60) d_Reader_read_27 (by decide) (fun _ => ?_) (fun c_4 => absurd c_4 (by decide))
  refine X_aload_n d_Reader_read_60 rfl rfl ?_
  refine X_iconst (v := 0) d_Reader_read_61 rfl ?_
  refine X_callVv (rest := []) (k_Reader_expect l G nn (by omega) (iEnd t (iExp 59 ((iE t) (iExp 130 (iEnd t (iExp 59 ((iE t) (iExp 129 (iEnd t (iExp 59 ((iE t) (iExp 128 (iAdv (iBeg t I)))))))))))))) 0 (pOK_end (pOK_exp (hE.2 _ (pOK_exp (pOK_end (pOK_exp (hE.2 _ (pOK_exp (pOK_end (pOK_exp (hE.2 _ (pOK_exp (pOK_adv (pOK_beg hs hn h2)) 128)) 59) hs) 129)) 59) hs) 130)) 59) hs)) lk_Reader_expect ml_Reader_56 (xm_obj (show xYf 11 = some (sReader 12 13) from rfl)) rfl rfl (Nat.le_of_ble_eq_true rfl) (xRok (d' := d - 1) (by omega) (by decide)) ⟨Nat.le_refl _, Nat.le_refl _⟩ d_Reader_read_62 rfl ?_
  refine X_aload_n d_Reader_read_65 rfl rfl ?_
  refine X_getI (v := (iExp 0 (iEnd t (iExp 59 ((iE t) (iExp 130 (iEnd t (iExp 59 ((iE t) (iExp 129 (iEnd t (iExp 59 ((iE t) (iExp 128 (iAdv (iBeg t I))))))))))))))) 11 8) fg_Reader_50 (show xYf 11 = some (sReader 12 13) from rfl) rfl (rfl) d_Reader_read_66 ?_
  exact X_iret rfl rfl (xle_rf _) d_Reader_read_69
