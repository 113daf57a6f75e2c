def mFin (L : xSay) (much : Int32) : Nat → (Nat → Int32) → Nat → Int32
  | 0, f => f
  | k + 1, f => if xabs (f 2) < much then f else mFin L much k (hFade L 1 f)
def Q_Model_fine (l : Launch) (G : xG) (d nn : Nat) (I : xI) (i : Nat) (S : xSay) (much : Int32) (k : Nat) (f : Nat → Int32) (e : Int32) : Prop := XW l G (xR d 0 0) y_Model_fine b_Model_fine 4 (some .int) xK0 (xZ G nn (xm G xYf (xup I 59 (sc (I 59) (mFin S much (61 - k) f) e))) (some (.int (sFine S much (61 - k) k f))) 0 0) nn (xm G xYf (xup I 59 (sc (I 59) f e))) 0 0 32 [(0, .ref (xg G 59)), (1, .int (nI i)), (2, .int much), (3, .int (nI k))] []
theorem w_Model_fine (l : Launch) (G : xG) {d : Nat} (nn : Nat) (hd : 6 ≤ d) (I : xI) (ln i : Nat) (S : xSay) (hK : mK I ln S) (hi : i < 5) (much : Int32) (k : Nat) (hk : k ≤ 61) (ih : k < 61 → ∀ f e, mRec I i f → Q_Model_fine l G d nn I i S much (k + 1) f e) (f : Nat → Int32) (e : Int32) (hf : mRec I i f) : Q_Model_fine l G d nn I i S much k f e := by
  unfold Q_Model_fine
  refine X_iload_n d_Model_fine_32 rfl rfl ?_
  refine X_bipush (v := 60) d_Model_fine_33 rfl ?_
  refine X_icmp_gt (tgt := 63) d_Model_fine_35 (by decide) (fun c_1 => ?_) (fun c_1 => ?_)
  ·
    have hz : 61 - k = 0 := by have := (nI_ltI (a := 60) (by decide) (by omega)).mp c_1; omega
    rw [hz]
    refine X_iconst (v := -1) d_Model_fine_63 rfl ?_
    exact X_iret rfl rfl (xle_rf _) d_Model_fine_64
  ·
    have hlt : k < 61 := Nat.lt_of_not_le (fun z => c_1 (show nI 60 < nI k from nI_lt (by omega) (by omega)))
    have hz : 61 - k = (61 - (k + 1)) + 1 := by omega
    refine X_aload_n d_Model_fine_38 rfl rfl ?_
    refine X_getI (v := f 2) fg_Model_140 (show xYf 59 = some sModel from rfl) rfl ((congrFun (xup_s _ _ _) _).trans (sc_29 _ _ _)) d_Model_fine_39 ?_
    refine X_callS (v := .int (xabs (f 2))) (rest := []) (c_Model_size0 l G nn _ (by omega) (f 2)) lk_Model_size0 ml_Model_164 rfl (Nat.le_of_ble_eq_true rfl) (xRok (d' := d - 1) (by omega) (by decide)) ⟨Nat.le_refl _, Nat.le_refl _⟩ d_Model_fine_42 rfl ?_
    refine X_iload_n d_Model_fine_45 rfl rfl ?_
    refine X_icmp_ge (tgt := 51) d_Model_fine_46 (by decide) (fun c_2 => ?_) (fun c_2 => ?_)
    ·
      refine X_aload_n d_Model_fine_51 rfl rfl ?_
      refine X_iload_n d_Model_fine_52 rfl rfl ?_
      refine X_iconst (v := 1) d_Model_fine_53 rfl ?_
      refine X_callVv (rest := []) (c_Model_fade l G nn (by omega) I ln i S hK (by omega) f hf e 1) lk_Model_fade ml_Model_170 (xm_obj (show xYf 59 = some sModel from rfl)) rfl rfl (Nat.le_of_ble_eq_true rfl) (xRok (d' := d - 1) (by omega) (by decide)) ⟨Nat.le_refl _, Nat.le_refl _⟩ d_Model_fine_54 rfl ?_
      refine X_iinc d_Model_fine_57 rfl (v := (nI k) + 1) rfl (by decide) [1, 2, 3, 0] (L' := [(0, .ref (xg G 59)), (1, .int (nI i)), (2, .int much), (3, .int ((nI k) + 1))]) rfl ?_
      refine X_goto (tgt := 32) d_Model_fine_60 (by decide) ?_
      have key := ih hlt (hFade S 1 f) e (mRec_fade hf _ _)
      unfold Q_Model_fine at key
      rw [hz, sFine, mFin, if_neg (Int32.not_lt.mpr c_2), if_neg (Int32.not_lt.mpr c_2), nI_1]
      exact key
    ·
      refine X_iload_n d_Model_fine_49 rfl rfl ?_
      rw [hz, sFine, mFin, if_pos (Int32.not_le.mp c_2), if_pos (Int32.not_le.mp c_2)]
      exact X_iret rfl rfl (xle_rf _) d_Model_fine_50
theorem c_Model_fine (l : Launch) (G : xG) {d : Nat} (nn : Nat) (hd : 7 ≤ d) (I : xI) (hc tc ln : Nat) (SS : Nat → xSay) (hK0 : mOK I hc tc ln SS) (h much : Int32) : XM l G d y_Model_fine b_Model_fine 4 (some .int) 0 0 xK0 [.ref (xg G 59), .int h, .int much] nn (xm G xYf I) (some (.int (aFine hc (SS ln) (mRow I) h much))) nn (xm G xYf (if xin h 0 (nI hc - 1) = true ∧ xin much 1 9999 = true then xup I 59 (sc (I 59) (mFin (SS ln) much 61 (hStd (mRow I h.toNatClampNeg))) (-1)) else I)) := by
  obtain ⟨⟨h0, h5⟩, ⟨h8, h6⟩, ⟨h9, hl⟩, hTs, hR⟩ := id hK0
  have hK : mK I ln (SS ln) := ⟨hTs ln hl, h9, by omega⟩
  generalize hSS : SS ln = S at hK ⊢
  refine XM.of (by decide) (Nat.le_of_ble_eq_true rfl) (L := [(0, .ref (xg G 59)), (1, .int h), (2, .int much)]) rfl ?_
  refine X_aload_n d_Model_fine_0 rfl rfl ?_
  refine X_iload_n d_Model_fine_1 rfl rfl ?_
  refine X_callV (v := .int (xb (xin h 0 (nI hc - 1)))) (rest := []) (c_Model_isHead l G nn (by omega) I hc tc ln SS hK0 h) lk_Model_isHead ml_Model_149 (xm_obj (show xYf 59 = some sModel from rfl)) rfl rfl (Nat.le_of_ble_eq_true rfl) (xRok (d' := d - 1) (by omega) (by decide)) ⟨Nat.le_refl _, Nat.le_refl _⟩ d_Model_fine_2 rfl ?_
  refine X_ifb_ne (tgt := 11) d_Model_fine_5 (by decide) (fun c_1 => ?_) (fun c_1 => ?_)
  ·
    obtain ⟨i, hi, rfl⟩ := cHead h5 c_1
    refine X_iload_n d_Model_fine_11 rfl rfl ?_
    refine X_iconst (v := 1) d_Model_fine_12 rfl ?_
    refine X_sipush (v := 9999) d_Model_fine_13 rfl ?_
    refine X_callS (v := .int (xb (xin much 1 9999))) (rest := []) (c_Model_in l G nn _ (by omega) much 1 9999) lk_Model_in ml_Model_66 rfl (Nat.le_of_ble_eq_true rfl) (xRok (d' := d - 1) (by omega) (by decide)) ⟨Nat.le_refl _, Nat.le_refl _⟩ d_Model_fine_16 rfl ?_
    refine X_ifb_ne (tgt := 25) d_Model_fine_19 (by decide) (fun c_2 => ?_) (fun c_2 => ?_)
    ·
      refine X_aload_n d_Model_fine_25 rfl rfl ?_
      refine X_iload_n d_Model_fine_26 rfl rfl ?_
      refine X_callVv (rest := []) (by have q := c_Model_begins l G nn (d := d - 1) (by omega) I i (by omega) (mCur I) (I 59 33); rw [sc_self] at q; exact q) lk_Model_begins ml_Model_212 (xm_obj (show xYf 59 = some sModel from rfl)) rfl rfl (Nat.le_of_ble_eq_true rfl) (xRok (d' := d - 1) (by omega) (by decide)) ⟨Nat.le_refl _, Nat.le_refl _⟩ d_Model_fine_27 rfl ?_
      refine X_iconst (v := 0) d_Model_fine_30 rfl ?_
      refine X_istore_n d_Model_fine_31 rfl (by decide) [1, 2, 3, 0] (L' := [(0, .ref (xg G 59)), (1, .int (nI i)), (2, .int much), (3, .int 0)]) rfl ?_
      have hx := xloop (Q := fun k => ∀ f e, mRec I i f → Q_Model_fine l G d nn I i S much k f e) (T := 61) (fun k hk ih f e => w_Model_fine l G nn (by omega) I ln i S hK (by omega) much k hk ih f e) 0 (Nat.zero_le _) (hStd (mRow I i)) (-1) (mRec_std (mRec_row I i))
      unfold Q_Model_fine at hx
      have e1 : aFine hc S (mRow I) (nI i) much = sFine S much (61 - 0) 0 (hStd (mRow I i)) := by rw [aFine, if_pos c_1, if_pos c_2, nI_cl (show i < 2 ^ 31 by omega)]
      rw [e1, if_pos ⟨c_1, c_2⟩, nI_cl (show i < 2 ^ 31 by omega)]
      exact hx
    ·
      refine X_ldc cs_Model_157 d_Model_fine_22 ?_
      exact X_iret rfl (congrArg (fun q => some (Value.int q)) (by subst hSS; first | (simp [aFine, c_1, nI_cl (show i < 2 ^ 31 by omega), c_2, xl_1_0, xl_1_1, xl_2_0, xl_2_1, xl_2_2, xl_3_0, xl_3_1, xl_3_2, xl_3_3]; done) | (exfalso; simp_all; done) | (clear hTs hR hK0 hK; simp_all [aFine, nI_cl (show i < 2 ^ 31 by omega)]; done))) (xle_of (congrArg (xm G xYf) (by first | (subst hSS; simp [c_1, nI_cl (show i < 2 ^ 31 by omega), c_2, xl_3_0, xl_3_1, xl_3_2, xl_3_3, xl_2_0, xl_2_1, xl_2_2, xl_1_0, xl_1_1]; done) | (exfalso; simp_all; done)))) d_Model_fine_24
  ·
    refine X_ldc cs_Model_156 d_Model_fine_8 ?_
    exact X_iret rfl (congrArg (fun q => some (Value.int q)) (by subst hSS; first | (simp [aFine, c_1, xl_1_0, xl_1_1, xl_2_0, xl_2_1, xl_2_2, xl_3_0, xl_3_1, xl_3_2, xl_3_3]; done) | (exfalso; simp_all; done) | (clear hTs hR hK0 hK; simp_all [aFine]; done))) (xle_of (congrArg (xm G xYf) (by first | (subst hSS; simp [c_1, xl_3_0, xl_3_1, xl_3_2, xl_3_3, xl_2_0, xl_2_1, xl_2_2, xl_1_0, xl_1_1]; done) | (exfalso; simp_all; done)))) d_Model_fine_10
