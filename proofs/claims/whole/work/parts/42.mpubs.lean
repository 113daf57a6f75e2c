theorem ixSb {x : Int32} {a m : Nat} (h : x = nI (a + m)) : x - nI m = nI a := by
  have := nI_add a m
  grind
def mOK (I : xI) (hc tc ln : Nat) (S : Nat → xSay) : Prop := (I 59 0 = nI hc ∧ hc ≤ 5) ∧ (I 59 8 = nI tc ∧ tc ≤ 6) ∧ (I 59 9 = nI ln ∧ ln < tc) ∧ (∀ j, j < tc → mTx I j (S j)) ∧ ∀ i, i < 5 → (¬ I 61 i < 0 ∧ I 61 i ≤ 9) ∧ (I 62 (6 * i + 5) = 0 ∨ I 62 (6 * i + 5) = 1)
theorem c_Model_isHead (l : Launch) (G : xG) {d : Nat} (nn : Nat) (hd : 2 ≤ d) (I : xI) (hc tc ln : Nat) (SS : Nat → xSay) (hK0 : mOK I hc tc ln SS) (h : Int32) : XM l G d y_Model_isHead b_Model_isHead 2 (some .boolean) 0 0 xK0 [.ref (xg G 59), .int h] nn (xm G xYf I) (some (.int (xb (xin h 0 (nI hc - 1))))) nn (xm G xYf (I)) := by
  obtain ⟨⟨h0, h5⟩, ⟨h8, h6⟩, ⟨h9, hl⟩, hTs, hR⟩ := id hK0
  have hK : mK I ln (SS ln) := ⟨hTs ln hl, h9, by omega⟩
  generalize hSS : SS ln = S at hK ⊢
  refine XM.of (by decide) (Nat.le_of_ble_eq_true rfl) (L := [(0, .ref (xg G 59)), (1, .int h)]) rfl ?_
  refine X_iload_n d_Model_isHead_0 rfl rfl ?_
  refine X_iconst (v := 0) d_Model_isHead_1 rfl ?_
  refine X_aload_n d_Model_isHead_2 rfl rfl ?_
  refine X_getI (v := nI hc) fg_Model_63 (show xYf 59 = some sModel from rfl) rfl (h0) d_Model_isHead_3 ?_
  refine X_iconst (v := 1) d_Model_isHead_6 rfl ?_
  refine X_isub d_Model_isHead_7 ?_
  refine X_callS (v := .int (xb (xin h 0 ((nI hc) - 1)))) (rest := []) (c_Model_in l G nn _ (by omega) h 0 ((nI hc) - 1)) lk_Model_in ml_Model_66 rfl (Nat.le_of_ble_eq_true rfl) (xRok (d' := d - 1) (by omega) (by decide)) ⟨Nat.le_refl _, Nat.le_refl _⟩ d_Model_isHead_8 rfl ?_
  exact X_zret rfl (xb_nar _) rfl (xle_rf _) d_Model_isHead_11
theorem c_Model_count (l : Launch) (G : xG) {d : Nat} (nn : Nat) (hd : 1 ≤ d) (I : xI) (hc tc ln : Nat) (SS : Nat → xSay) (hK0 : mOK I hc tc ln SS) (what : Int32) : XM l G d y_Model_count b_Model_count 2 (some .int) 0 0 xK0 [.ref (xg G 59), .int what] nn (xm G xYf I) (some (.int (aCount hc tc ln (I 59 5) what))) nn (xm G xYf (I)) := by
  obtain ⟨⟨h0, h5⟩, ⟨h8, h6⟩, ⟨h9, hl⟩, hTs, hR⟩ := id hK0
  have hK : mK I ln (SS ln) := ⟨hTs ln hl, h9, by omega⟩
  generalize hSS : SS ln = S at hK ⊢
  refine XM.of (by decide) (Nat.le_of_ble_eq_true rfl) (L := [(0, .ref (xg G 59)), (1, .int what)]) rfl ?_
  refine X_iload_n d_Model_count_0 rfl rfl ?_
  by_cases c_1 : what = 0
  ·
    refine X_tableIn (tgt := 32) d_Model_count_1 (by rw [c_1]; decide) (by rw [c_1]; decide) (by rw [c_1]; rfl) (by decide) ?_
    refine X_aload_n d_Model_count_32 rfl rfl ?_
    refine X_getI (v := nI hc) fg_Model_63 (show xYf 59 = some sModel from rfl) rfl (h0) d_Model_count_33 ?_
    exact X_iret rfl (congrArg (fun q => some (Value.int q)) (by subst hSS; first | (simp [aCount, c_1, xl_1_0, xl_1_1, xl_2_0, xl_2_1, xl_2_2]; done) | (exfalso; simp_all; done) | (clear hTs hR hK0 hK; simp_all [aCount]; done))) (xle_rf _) d_Model_count_36
  by_cases c_2 : what = 1
  ·
    refine X_tableIn (tgt := 37) d_Model_count_1 (by rw [c_2]; decide) (by rw [c_2]; decide) (by rw [c_2]; rfl) (by decide) ?_
    refine X_aload_n d_Model_count_37 rfl rfl ?_
    refine X_getI (v := nI tc) fg_Model_70 (show xYf 59 = some sModel from rfl) rfl (h8) d_Model_count_38 ?_
    exact X_iret rfl (congrArg (fun q => some (Value.int q)) (by subst hSS; first | (simp [aCount, c_1, c_2, xl_1_0, xl_1_1, xl_2_0, xl_2_1, xl_2_2]; done) | (exfalso; simp_all; done) | (clear hTs hR hK0 hK; simp_all [aCount]; done))) (xle_rf _) d_Model_count_41
  by_cases c_3 : what = 2
  ·
    refine X_tableIn (tgt := 42) d_Model_count_1 (by rw [c_3]; decide) (by rw [c_3]; decide) (by rw [c_3]; rfl) (by decide) ?_
    refine X_aload_n d_Model_count_42 rfl rfl ?_
    refine X_getI (v := nI ln) fg_Model_73 (show xYf 59 = some sModel from rfl) rfl (h9) d_Model_count_43 ?_
    exact X_iret rfl (congrArg (fun q => some (Value.int q)) (by subst hSS; first | (simp [aCount, c_1, c_2, c_3, xl_1_0, xl_1_1, xl_2_0, xl_2_1, xl_2_2]; done) | (exfalso; simp_all; done) | (clear hTs hR hK0 hK; simp_all [aCount]; done))) (xle_rf _) d_Model_count_46
  by_cases c_4 : what = 3
  ·
    refine X_tableIn (tgt := 47) d_Model_count_1 (by rw [c_4]; decide) (by rw [c_4]; decide) (by rw [c_4]; rfl) (by decide) ?_
    refine X_aload_n d_Model_count_47 rfl rfl ?_
    refine X_getI (v := I 59 5) fg_Model_55 (show xYf 59 = some sModel from rfl) rfl (rfl) d_Model_count_48 ?_
    exact X_iret rfl (congrArg (fun q => some (Value.int q)) (by subst hSS; first | (simp [aCount, c_1, c_2, c_3, c_4, xl_1_0, xl_1_1, xl_2_0, xl_2_1, xl_2_2]; done) | (exfalso; simp_all; done) | (clear hTs hR hK0 hK; simp_all [aCount]; done))) (xle_rf _) d_Model_count_51
  refine X_tableOut (tgt := 52) d_Model_count_1 (xtout what (0) (3) (by decide) (by intro q h1 h2; have hq : q = 0 ∨ q = 1 ∨ q = 2 ∨ q = 3 := (by omega); rcases hq with rfl | rfl | rfl | rfl <;> first | exact c_1 | exact c_2 | exact c_3 | exact c_4)) (by decide) ?_
  refine X_bipush (v := -2) d_Model_count_52 rfl ?_
  exact X_iret rfl (congrArg (fun q => some (Value.int q)) (by subst hSS; first | (simp [aCount, c_1, c_2, c_3, c_4, xl_1_0, xl_1_1, xl_2_0, xl_2_1, xl_2_2]; done) | (exfalso; simp_all; done) | (clear hTs hR hK0 hK; simp_all [aCount]; done))) (xle_rf _) d_Model_count_54
theorem c_Model_force (l : Launch) (G : xG) {d : Nat} (nn : Nat) (hd : 2 ≤ d) (I : xI) (hc tc ln : Nat) (SS : Nat → xSay) (hK0 : mOK I hc tc ln SS) (t : Int32) : XM l G d y_Model_force b_Model_force 3 (some .int) 0 0 xK0 [.ref (xg G 59), .int t] nn (xm G xYf I) (some (.int (aForce tc ln t))) nn (xm G xYf (if xin t 0 (nI tc - 1) = true then xw I 59 9 t else I)) := by
  obtain ⟨⟨h0, h5⟩, ⟨h8, h6⟩, ⟨h9, hl⟩, hTs, hR⟩ := id hK0
  have hK : mK I ln (SS ln) := ⟨hTs ln hl, h9, by omega⟩
  generalize hSS : SS ln = S at hK ⊢
  refine XM.of (by decide) (Nat.le_of_ble_eq_true rfl) (L := [(0, .ref (xg G 59)), (1, .int t)]) rfl ?_
  refine X_iload_n d_Model_force_0 rfl rfl ?_
  refine X_iconst (v := 0) d_Model_force_1 rfl ?_
  refine X_aload_n d_Model_force_2 rfl rfl ?_
  refine X_getI (v := nI tc) fg_Model_70 (show xYf 59 = some sModel from rfl) rfl (h8) d_Model_force_3 ?_
  refine X_iconst (v := 1) d_Model_force_6 rfl ?_
  refine X_isub d_Model_force_7 ?_
  refine X_callS (v := .int (xb (xin t 0 ((nI tc) - 1)))) (rest := []) (c_Model_in l G nn _ (by omega) t 0 ((nI tc) - 1)) lk_Model_in ml_Model_66 rfl (Nat.le_of_ble_eq_true rfl) (xRok (d' := d - 1) (by omega) (by decide)) ⟨Nat.le_refl _, Nat.le_refl _⟩ d_Model_force_8 rfl ?_
  refine X_ifb_ne (tgt := 17) d_Model_force_11 (by decide) (fun c_1 => ?_) (fun c_1 => ?_)
  ·
    refine X_aload_n d_Model_force_17 rfl rfl ?_
    refine X_getI (v := nI ln) fg_Model_73 (show xYf 59 = some sModel from rfl) rfl (h9) d_Model_force_18 ?_
    refine X_istore_n d_Model_force_21 rfl (by decide) [1, 2, 0] (L' := [(0, .ref (xg G 59)), (1, .int t), (2, .int (nI ln))]) rfl ?_
    refine X_aload_n d_Model_force_22 rfl rfl ?_
    refine X_iload_n d_Model_force_23 rfl rfl ?_
    refine X_putI fp_Model_73 (show xYf 59 = some sModel from rfl) rfl d_Model_force_24 ?_
    refine X_iload_n d_Model_force_27 rfl rfl ?_
    exact X_iret rfl (congrArg (fun q => some (Value.int q)) (by subst hSS; first | (simp [aForce, c_1, xl_1_0, xl_1_1, xl_2_0, xl_2_1, xl_2_2]; done) | (exfalso; simp_all; done) | (clear hTs hR hK0 hK; simp_all [aForce]; done))) (xle_of (congrArg (xm G xYf) (by first | (simp [c_1]; done) | (exfalso; simp_all; done)))) d_Model_force_28
  ·
    refine X_bipush (v := -2) d_Model_force_14 rfl ?_
    exact X_iret rfl (congrArg (fun q => some (Value.int q)) (by subst hSS; first | (simp [aForce, c_1, xl_1_0, xl_1_1, xl_2_0, xl_2_1, xl_2_2]; done) | (exfalso; simp_all; done) | (clear hTs hR hK0 hK; simp_all [aForce]; done))) (xle_of (congrArg (xm G xYf) (by first | (simp [c_1]; done) | (exfalso; simp_all; done)))) d_Model_force_16
theorem c_Model_up (l : Launch) (G : xG) {d : Nat} (nn : Nat) (hd : 3 ≤ d) (I : xI) (hc tc ln : Nat) (SS : Nat → xSay) (hK0 : mOK I hc tc ln SS) (h : Int32) : XM l G d y_Model_up b_Model_up 3 (some .int) 0 0 xK0 [.ref (xg G 59), .int h] nn (xm G xYf I) (some (.int (aUp hc (mRow I) h))) nn (xm G xYf (if xin h 0 (nI hc - 1) = true then xw (xw (xw I 62 (6 * h.toNatClampNeg + 3) 0) 62 (6 * h.toNatClampNeg + 4) 0) 62 (6 * h.toNatClampNeg + 5) 0 else I)) := by
  obtain ⟨⟨h0, h5⟩, ⟨h8, h6⟩, ⟨h9, hl⟩, hTs, hR⟩ := id hK0
  have hK : mK I ln (SS ln) := ⟨hTs ln hl, h9, by omega⟩
  generalize hSS : SS ln = S at hK ⊢
  refine XM.of (by decide) (Nat.le_of_ble_eq_true rfl) (L := [(0, .ref (xg G 59)), (1, .int h)]) rfl ?_
  refine X_aload_n d_Model_up_0 rfl rfl ?_
  refine X_iload_n d_Model_up_1 rfl rfl ?_
  refine X_callV (v := .int (xb (xin h 0 (nI hc - 1)))) (rest := []) (c_Model_isHead l G nn (by omega) I hc tc ln SS hK0 h) lk_Model_isHead ml_Model_149 (xm_obj (show xYf 59 = some sModel from rfl)) rfl rfl (Nat.le_of_ble_eq_true rfl) (xRok (d' := d - 1) (by omega) (by decide)) ⟨Nat.le_refl _, Nat.le_refl _⟩ d_Model_up_2 rfl ?_
  refine X_ifb_ne (tgt := 11) d_Model_up_5 (by decide) (fun c_1 => ?_) (fun c_1 => ?_)
  ·
    obtain ⟨i, hi, rfl⟩ := cHead h5 c_1
    refine X_aload_n d_Model_up_11 rfl rfl ?_
    refine X_getR (r := 62) fg_Model_16 (show xYf 59 = some sModel from rfl) rfl d_Model_up_12 ?_
    refine X_bipush (v := 6) d_Model_up_15 rfl ?_
    refine X_iload_n d_Model_up_17 rfl rfl ?_
    refine X_imul d_Model_up_18 ?_
    refine X_iconst (v := 4) d_Model_up_19 rfl ?_
    refine X_iadd d_Model_up_20 ?_
    refine X_aldI (v := I 62 (6 * i + 4)) (show xYf 62 = some (sInts 30) from rfl) (ixin (ixA (ixM (show (6 : Int32) = nI 6 from rfl) (show nI i = nI i from rfl)) (show (4 : Int32) = nI 4 from rfl)) (show 6 * i + 4 < 30 by omega) (by decide)) ((ixv (ixA (ixM (show (6 : Int32) = nI 6 from rfl) (show nI i = nI i from rfl)) (show (4 : Int32) = nI 4 from rfl)) (show 6 * i + 4 < 2 ^ 31 by omega) (rfl))) d_Model_up_21 ?_
    refine X_istore_n d_Model_up_22 rfl (by decide) [1, 2, 0] (L' := [(0, .ref (xg G 59)), (1, .int (nI i)), (2, .int (I 62 (6 * i + 4)))]) rfl ?_
    refine X_aload_n d_Model_up_23 rfl rfl ?_
    refine X_getR (r := 62) fg_Model_16 (show xYf 59 = some sModel from rfl) rfl d_Model_up_24 ?_
    refine X_bipush (v := 6) d_Model_up_27 rfl ?_
    refine X_iload_n d_Model_up_29 rfl rfl ?_
    refine X_imul d_Model_up_30 ?_
    refine X_iconst (v := 3) d_Model_up_31 rfl ?_
    refine X_iadd d_Model_up_32 ?_
    refine X_iconst (v := 0) d_Model_up_33 rfl ?_
    refine X_astI (show xYf 62 = some (sInts 30) from rfl) (ixin (ixA (ixM (show (6 : Int32) = nI 6 from rfl) (show nI i = nI i from rfl)) (show (3 : Int32) = nI 3 from rfl)) (show 6 * i + 3 < 30 by omega) (by decide)) d_Model_up_34 ?_
    rw [ixcl (x := (6 * (nI i)) + 3) (ixA (ixM (show (6 : Int32) = nI 6 from rfl) (show nI i = nI i from rfl)) (show (3 : Int32) = nI 3 from rfl)) (show 6 * i + 3 < 2 ^ 31 by omega)]
    refine X_aload_n d_Model_up_35 rfl rfl ?_
    refine X_getR (r := 62) fg_Model_16 (show xYf 59 = some sModel from rfl) rfl d_Model_up_36 ?_
    refine X_bipush (v := 6) d_Model_up_39 rfl ?_
    refine X_iload_n d_Model_up_41 rfl rfl ?_
    refine X_imul d_Model_up_42 ?_
    refine X_iconst (v := 4) d_Model_up_43 rfl ?_
    refine X_iadd d_Model_up_44 ?_
    refine X_iconst (v := 0) d_Model_up_45 rfl ?_
    refine X_astI (show xYf 62 = some (sInts 30) from rfl) (ixin (ixA (ixM (show (6 : Int32) = nI 6 from rfl) (show nI i = nI i from rfl)) (show (4 : Int32) = nI 4 from rfl)) (show 6 * i + 4 < 30 by omega) (by decide)) d_Model_up_46 ?_
    rw [ixcl (x := (6 * (nI i)) + 4) (ixA (ixM (show (6 : Int32) = nI 6 from rfl) (show nI i = nI i from rfl)) (show (4 : Int32) = nI 4 from rfl)) (show 6 * i + 4 < 2 ^ 31 by omega)]
    refine X_aload_n d_Model_up_47 rfl rfl ?_
    refine X_getR (r := 62) fg_Model_16 (show xYf 59 = some sModel from rfl) rfl d_Model_up_48 ?_
    refine X_bipush (v := 6) d_Model_up_51 rfl ?_
    refine X_iload_n d_Model_up_53 rfl rfl ?_
    refine X_imul d_Model_up_54 ?_
    refine X_iconst (v := 5) d_Model_up_55 rfl ?_
    refine X_iadd d_Model_up_56 ?_
    refine X_iconst (v := 0) d_Model_up_57 rfl ?_
    refine X_astI (show xYf 62 = some (sInts 30) from rfl) (ixin (ixA (ixM (show (6 : Int32) = nI 6 from rfl) (show nI i = nI i from rfl)) (show (5 : Int32) = nI 5 from rfl)) (show 6 * i + 5 < 30 by omega) (by decide)) d_Model_up_58 ?_
    rw [ixcl (x := (6 * (nI i)) + 5) (ixA (ixM (show (6 : Int32) = nI 6 from rfl) (show nI i = nI i from rfl)) (show (5 : Int32) = nI 5 from rfl)) (show 6 * i + 5 < 2 ^ 31 by omega)]
    refine X_iload_n d_Model_up_59 rfl rfl ?_
    exact X_iret rfl (congrArg (fun q => some (Value.int q)) (by subst hSS; first | (simp [aUp, mRow, c_1, nI_cl (show i < 2 ^ 31 by omega), xl_1_0, xl_1_1, xl_2_0, xl_2_1, xl_2_2]; done) | (exfalso; simp_all; done) | (clear hTs hR hK0 hK; simp_all [aUp, mRow, nI_cl (show i < 2 ^ 31 by omega)]; done))) (xle_of (congrArg (xm G xYf) (by first | (simp [c_1, nI_cl (show i < 2 ^ 31 by omega)]; done) | (exfalso; simp_all; done)))) d_Model_up_60
  ·
    refine X_ldc cs_Model_156 d_Model_up_8 ?_
    exact X_iret rfl (congrArg (fun q => some (Value.int q)) (by subst hSS; first | (simp [aUp, mRow, c_1, xl_1_0, xl_1_1, xl_2_0, xl_2_1, xl_2_2]; done) | (exfalso; simp_all; done) | (clear hTs hR hK0 hK; simp_all [aUp, mRow]; done))) (xle_of (congrArg (xm G xYf) (by first | (simp [c_1]; done) | (exfalso; simp_all; done)))) d_Model_up_10
theorem xin_sp {v : Int32} (h : xin v 1 9 = true) : ¬ v < 0 ∧ v ≤ 9 := by
  rw [xin_iff] at h
  grind
theorem xin_60 {v : Int32} (h : xin v 0 60 = true) : ¬ v < 0 ∧ v ≤ 100 := by
  rw [xin_iff] at h
  grind
theorem xin_abs2 {n : Int32} (h : xin n (-40) 40 = true) : xabs n ≤ 100 := by
  rw [xin_iff] at h
  unfold xabs
  grind
theorem h7_ling {S : xSay} {y : Int32} {f : Nat → Int32} (h : f 7 = 0 ∨ f 7 = 1) (k : Nat) : hLing S y k f 7 = 0 ∨ hLing S y k f 7 = 1 := by
  induction k with
  | zero => exact h
  | succ k ih => rw [hLing, hFade_7]; exact ih
theorem h7_spin {S : xSay} {n sp : Int32} {f : Nat → Int32} (h : f 7 = 0 ∨ f 7 = 1) : hSpin S n sp f 7 = 0 ∨ hSpin S n sp f 7 = 1 := by
  have h2 : ∀ k (g : Nat → Int32), hSpinN S sp (hSide n) k g 7 = g 7 := by
    intro k g
    induction k with
    | zero => rfl
    | succ k ih => rw [hSpinN, hSpin1, hFade_7, xup_n _ _ (by decide)]; exact ih
  rw [hSpin, h2]
  exact h
/-- one's numbers are laid back -/
def mBk (I : xI) (i : Nat) (F : Nat → Int32) (e : Int32) : xI := xup (xup I 59 (sc (I 59) F e)) 62 (mLay (I 62) i F)
theorem c_Model_turn (l : Launch) (G : xG) {d : Nat} (nn : Nat) (hd : 8 ≤ d) (I : xI) (hc tc ln : Nat) (SS : Nat → xSay) (hK0 : mOK I hc tc ln SS) (h n sp : Int32) : XM l G d y_Model_turn b_Model_turn 4 (some .int) 0 0 xK0 [.ref (xg G 59), .int h, .int n, .int sp] nn (xm G xYf I) (some (.int (aTurn hc (SS ln) (mRow I) h n sp))) nn (xm G xYf (if okTurn hc h n sp = true then xup (xup I 59 (sc (I 59) (hSpin (SS ln) n sp (mRow I h.toNatClampNeg)) (I 59 33))) 62 (xup (mLay (I 62) h.toNatClampNeg (hSpin (SS ln) n sp (mRow I h.toNatClampNeg))) (6 * h.toNatClampNeg + 2) (xbd ((mLay (I 62) h.toNatClampNeg (hSpin (SS ln) n sp (mRow I h.toNatClampNeg))) (6 * h.toNatClampNeg + 2) + 1) 0 99)) else I)) := by
  obtain ⟨⟨h0, h5⟩, ⟨h8, h6⟩, ⟨h9, hl⟩, hTs, hR⟩ := id hK0
  have hK : mK I ln (SS ln) := ⟨hTs ln hl, h9, by omega⟩
  generalize hSS : SS ln = S at hK ⊢
  refine XM.of (by decide) (Nat.le_of_ble_eq_true rfl) (L := [(0, .ref (xg G 59)), (1, .int h), (2, .int n), (3, .int sp)]) rfl ?_
  refine X_aload_n d_Model_turn_0 rfl rfl ?_
  refine X_iload_n d_Model_turn_1 rfl rfl ?_
  refine X_callV (v := .int (xb (xin h 0 (nI hc - 1)))) (rest := []) (c_Model_isHead l G nn (by omega) I hc tc ln SS hK0 h) lk_Model_isHead ml_Model_149 (xm_obj (show xYf 59 = some sModel from rfl)) rfl rfl (Nat.le_of_ble_eq_true rfl) (xRok (d' := d - 1) (by omega) (by decide)) ⟨Nat.le_refl _, Nat.le_refl _⟩ d_Model_turn_2 rfl ?_
  refine X_ifb_ne (tgt := 11) d_Model_turn_5 (by decide) (fun c_1 => ?_) (fun c_1 => ?_)
  ·
    obtain ⟨i, hi, rfl⟩ := cHead h5 c_1
    refine X_iload_n d_Model_turn_11 rfl rfl ?_
    refine X_callS (v := .int (xb (xin n (-40) 40))) (rest := []) (c_Model_isTurned l G nn _ (by omega) n) lk_Model_isTurned ml_Model_193 rfl (Nat.le_of_ble_eq_true rfl) (xRok (d' := d - 1) (by omega) (by decide)) ⟨Nat.le_refl _, Nat.le_refl _⟩ d_Model_turn_12 rfl ?_
    refine X_ifb_eq (tgt := 28) d_Model_turn_15 (by decide) (fun c_2 => ?_) (fun c_2 => ?_)
    ·
      refine X_ldc cs_Model_157 d_Model_turn_28 ?_
      exact X_iret rfl (congrArg (fun q => some (Value.int q)) (by subst hSS; first | (simp [aTurn, c_1, nI_cl (show i < 2 ^ 31 by omega), c_2, xl_1_0, xl_1_1, xl_2_0, xl_2_1, xl_2_2]; done) | (exfalso; simp_all; done) | (clear hTs hR hK0 hK; simp_all [aTurn, nI_cl (show i < 2 ^ 31 by omega)]; done))) (xle_of (congrArg (xm G xYf) (by first | (subst hSS; simp [okTurn, c_1, nI_cl (show i < 2 ^ 31 by omega), c_2]; done) | (exfalso; simp_all; done)))) d_Model_turn_30
    ·
      refine X_iload_n d_Model_turn_18 rfl rfl ?_
      refine X_iconst (v := 1) d_Model_turn_19 rfl ?_
      refine X_bipush (v := 9) d_Model_turn_20 rfl ?_
      refine X_callS (v := .int (xb (xin sp 1 9))) (rest := []) (c_Model_in l G nn _ (by omega) sp 1 9) lk_Model_in ml_Model_66 rfl (Nat.le_of_ble_eq_true rfl) (xRok (d' := d - 1) (by omega) (by decide)) ⟨Nat.le_refl _, Nat.le_refl _⟩ d_Model_turn_22 rfl ?_
      refine X_ifb_ne (tgt := 31) d_Model_turn_25 (by decide) (fun c_3 => ?_) (fun c_3 => ?_)
      ·
        refine X_aload_n d_Model_turn_31 rfl rfl ?_
        refine X_iload_n d_Model_turn_32 rfl rfl ?_
        refine X_callVv (rest := []) (by have q := c_Model_takes l G nn (d := d - 1) (by omega) I i (by omega) (mCur I) (I 59 33) (hR i (by omega)).2; rw [sc_self] at q; exact q) lk_Model_takes ml_Model_196 (xm_obj (show xYf 59 = some sModel from rfl)) rfl rfl (Nat.le_of_ble_eq_true rfl) (xRok (d' := d - 1) (by omega) (by decide)) ⟨Nat.le_refl _, Nat.le_refl _⟩ d_Model_turn_33 rfl ?_
        refine X_aload_n d_Model_turn_36 rfl rfl ?_
        refine X_iload_n d_Model_turn_37 rfl rfl ?_
        refine X_iload_n d_Model_turn_38 rfl rfl ?_
        refine X_iload_n d_Model_turn_39 rfl rfl ?_
        refine X_callVv (rest := []) (c_Model_turns l G nn (by omega) I ln i S hK (by omega) (mRow I i) (mRec_row I i) (I 59 33) n sp (xin_sp c_3) (hR i (by omega)).1 (xin_abs c_2) (xin_abs2 c_2)) lk_Model_turns ml_Model_199 (xm_obj (show xYf 59 = some sModel from rfl)) rfl rfl (Nat.le_of_ble_eq_true rfl) (xRok (d' := d - 1) (by omega) (by decide)) ⟨Nat.le_refl _, Nat.le_refl _⟩ d_Model_turn_40 rfl ?_
        refine X_aload_n d_Model_turn_43 rfl rfl ?_
        refine X_iload_n d_Model_turn_44 rfl rfl ?_
        refine X_callVv (rest := []) (c_Model_lays l G nn (by omega) I i (by omega) (hSpin S n sp (mRow I i)) (I 59 33) (h7_spin (hR i (by omega)).2)) lk_Model_lays ml_Model_203 (xm_obj (show xYf 59 = some sModel from rfl)) rfl rfl (Nat.le_of_ble_eq_true rfl) (xRok (d' := d - 1) (by omega) (by decide)) ⟨Nat.le_refl _, Nat.le_refl _⟩ d_Model_turn_45 rfl ?_
        refine X_aload_n d_Model_turn_48 rfl rfl ?_
        refine X_getR (r := 62) fg_Model_16 (show xYf 59 = some sModel from rfl) rfl d_Model_turn_49 ?_
        refine X_bipush (v := 6) d_Model_turn_52 rfl ?_
        refine X_iload_n d_Model_turn_54 rfl rfl ?_
        refine X_imul d_Model_turn_55 ?_
        refine X_iconst (v := 2) d_Model_turn_56 rfl ?_
        refine X_iadd d_Model_turn_57 ?_
        refine X_aload_n d_Model_turn_58 rfl rfl ?_
        refine X_getR (r := 62) fg_Model_16 (show xYf 59 = some sModel from rfl) rfl d_Model_turn_59 ?_
        refine X_bipush (v := 6) d_Model_turn_62 rfl ?_
        refine X_iload_n d_Model_turn_64 rfl rfl ?_
        refine X_imul d_Model_turn_65 ?_
        refine X_iconst (v := 2) d_Model_turn_66 rfl ?_
        refine X_iadd d_Model_turn_67 ?_
        refine X_aldI (v := (mLay (I 62) i (hSpin S n sp (mRow I i))) (6 * i + 2)) (show xYf 62 = some (sInts 30) from rfl) (ixin (ixA (ixM (show (6 : Int32) = nI 6 from rfl) (show nI i = nI i from rfl)) (show (2 : Int32) = nI 2 from rfl)) (show 6 * i + 2 < 30 by omega) (by decide)) ((ixv (ixA (ixM (show (6 : Int32) = nI 6 from rfl) (show nI i = nI i from rfl)) (show (2 : Int32) = nI 2 from rfl)) (show 6 * i + 2 < 2 ^ 31 by omega) (congrFun (xup_s _ _ _) _))) d_Model_turn_68 ?_
        refine X_iconst (v := 1) d_Model_turn_69 rfl ?_
        refine X_iadd d_Model_turn_70 ?_
        refine X_iconst (v := 0) d_Model_turn_71 rfl ?_
        refine X_bipush (v := 99) d_Model_turn_72 rfl ?_
        refine X_callS (v := .int (xbd (((mLay (I 62) i (hSpin S n sp (mRow I i))) (6 * i + 2)) + 1) 0 99)) (rest := [.int ((6 * (nI i)) + 2), .ref (xg G 62)]) (c_Model_within l G nn _ (by omega) (((mLay (I 62) i (hSpin S n sp (mRow I i))) (6 * i + 2)) + 1) 0 99) lk_Model_within ml_Model_146 rfl (Nat.le_of_ble_eq_true rfl) (xRok (d' := d - 1) (by omega) (by decide)) ⟨Nat.le_refl _, Nat.le_refl _⟩ d_Model_turn_74 rfl ?_
        refine X_astI (show xYf 62 = some (sInts 30) from rfl) (ixin (ixA (ixM (show (6 : Int32) = nI 6 from rfl) (show nI i = nI i from rfl)) (show (2 : Int32) = nI 2 from rfl)) (show 6 * i + 2 < 30 by omega) (by decide)) d_Model_turn_77 ?_
        rw [ixcl (x := (6 * (nI i)) + 2) (ixA (ixM (show (6 : Int32) = nI 6 from rfl) (show nI i = nI i from rfl)) (show (2 : Int32) = nI 2 from rfl)) (show 6 * i + 2 < 2 ^ 31 by omega)]
        rw [xw_rec]
        refine X_aload_n d_Model_turn_78 rfl rfl ?_
        refine X_getI (v := (hSpin S n sp (mRow I i)) 2) fg_Model_140 (show xYf 59 = some sModel from rfl) rfl ((congrFun (xup_n _ _ (by decide)) _).trans ((congrFun (xup_s _ _ _) _).trans (sc_29 _ _ _))) d_Model_turn_79 ?_
        exact X_iret rfl (congrArg (fun q => some (Value.int q)) (by subst hSS; first | (simp [aTurn, c_1, nI_cl (show i < 2 ^ 31 by omega), c_2, c_3, xl_1_0, xl_1_1, xl_2_0, xl_2_1, xl_2_2]; done) | (exfalso; simp_all; done) | (clear hTs hR hK0 hK; simp_all [aTurn, nI_cl (show i < 2 ^ 31 by omega)]; done))) (xle_of (congrArg (xm G xYf) (by first | (subst hSS; simp [okTurn, c_1, nI_cl (show i < 2 ^ 31 by omega), c_2, c_3]; done) | (exfalso; simp_all; done)))) d_Model_turn_82
      ·
        refine X_ldc cs_Model_157 d_Model_turn_28 ?_
        exact X_iret rfl (congrArg (fun q => some (Value.int q)) (by subst hSS; first | (simp [aTurn, c_1, nI_cl (show i < 2 ^ 31 by omega), c_2, c_3, xl_1_0, xl_1_1, xl_2_0, xl_2_1, xl_2_2]; done) | (exfalso; simp_all; done) | (clear hTs hR hK0 hK; simp_all [aTurn, nI_cl (show i < 2 ^ 31 by omega)]; done))) (xle_of (congrArg (xm G xYf) (by first | (subst hSS; simp [okTurn, c_1, nI_cl (show i < 2 ^ 31 by omega), c_2, c_3]; done) | (exfalso; simp_all; done)))) d_Model_turn_30
  ·
    refine X_ldc cs_Model_156 d_Model_turn_8 ?_
    exact X_iret rfl (congrArg (fun q => some (Value.int q)) (by subst hSS; first | (simp [aTurn, c_1, xl_1_0, xl_1_1, xl_2_0, xl_2_1, xl_2_2]; done) | (exfalso; simp_all; done) | (clear hTs hR hK0 hK; simp_all [aTurn]; done))) (xle_of (congrArg (xm G xYf) (by first | (subst hSS; simp [okTurn, c_1]; done) | (exfalso; simp_all; done)))) d_Model_turn_10
theorem c_Model_rest (l : Launch) (G : xG) {d : Nat} (nn : Nat) (hd : 8 ≤ d) (I : xI) (hc tc ln : Nat) (SS : Nat → xSay) (hK0 : mOK I hc tc ln SS) (h sec eyes : Int32) : XM l G d y_Model_rest b_Model_rest 4 (some .int) 0 0 xK0 [.ref (xg G 59), .int h, .int sec, .int eyes] nn (xm G xYf I) (some (.int (aRest hc (SS ln) (mRow I) h sec eyes))) nn (xm G xYf (if okRest hc h sec eyes = true then xup (xup I 59 (sc (I 59) (hLing (SS ln) eyes sec.toNatClampNeg (mRow I h.toNatClampNeg)) (I 59 33))) 62 (mLay (I 62) h.toNatClampNeg (hLing (SS ln) eyes sec.toNatClampNeg (mRow I h.toNatClampNeg))) else I)) := by
  obtain ⟨⟨h0, h5⟩, ⟨h8, h6⟩, ⟨h9, hl⟩, hTs, hR⟩ := id hK0
  have hK : mK I ln (SS ln) := ⟨hTs ln hl, h9, by omega⟩
  generalize hSS : SS ln = S at hK ⊢
  refine XM.of (by decide) (Nat.le_of_ble_eq_true rfl) (L := [(0, .ref (xg G 59)), (1, .int h), (2, .int sec), (3, .int eyes)]) rfl ?_
  refine X_aload_n d_Model_rest_0 rfl rfl ?_
  refine X_iload_n d_Model_rest_1 rfl rfl ?_
  refine X_callV (v := .int (xb (xin h 0 (nI hc - 1)))) (rest := []) (c_Model_isHead l G nn (by omega) I hc tc ln SS hK0 h) lk_Model_isHead ml_Model_149 (xm_obj (show xYf 59 = some sModel from rfl)) rfl rfl (Nat.le_of_ble_eq_true rfl) (xRok (d' := d - 1) (by omega) (by decide)) ⟨Nat.le_refl _, Nat.le_refl _⟩ d_Model_rest_2 rfl ?_
  refine X_ifb_ne (tgt := 11) d_Model_rest_5 (by decide) (fun c_1 => ?_) (fun c_1 => ?_)
  ·
    obtain ⟨i, hi, rfl⟩ := cHead h5 c_1
    refine X_iload_n d_Model_rest_11 rfl rfl ?_
    refine X_iconst (v := 0) d_Model_rest_12 rfl ?_
    refine X_bipush (v := 60) d_Model_rest_13 rfl ?_
    refine X_callS (v := .int (xb (xin sec 0 60))) (rest := []) (c_Model_in l G nn _ (by omega) sec 0 60) lk_Model_in ml_Model_66 rfl (Nat.le_of_ble_eq_true rfl) (xRok (d' := d - 1) (by omega) (by decide)) ⟨Nat.le_refl _, Nat.le_refl _⟩ d_Model_rest_15 rfl ?_
    refine X_ifb_eq (tgt := 30) d_Model_rest_18 (by decide) (fun c_2 => ?_) (fun c_2 => ?_)
    ·
      refine X_ldc cs_Model_157 d_Model_rest_30 ?_
      exact X_iret rfl (congrArg (fun q => some (Value.int q)) (by subst hSS; first | (simp [aRest, c_1, nI_cl (show i < 2 ^ 31 by omega), c_2, xl_1_0, xl_1_1, xl_2_0, xl_2_1, xl_2_2]; done) | (exfalso; simp_all; done) | (clear hTs hR hK0 hK; simp_all [aRest, nI_cl (show i < 2 ^ 31 by omega)]; done))) (xle_of (congrArg (xm G xYf) (by first | (subst hSS; simp [okRest, c_1, nI_cl (show i < 2 ^ 31 by omega), c_2]; done) | (exfalso; simp_all; done)))) d_Model_rest_32
    ·
      refine X_iload_n d_Model_rest_21 rfl rfl ?_
      refine X_iconst (v := 0) d_Model_rest_22 rfl ?_
      refine X_iconst (v := 1) d_Model_rest_23 rfl ?_
      refine X_callS (v := .int (xb (xin eyes 0 1))) (rest := []) (c_Model_in l G nn _ (by omega) eyes 0 1) lk_Model_in ml_Model_66 rfl (Nat.le_of_ble_eq_true rfl) (xRok (d' := d - 1) (by omega) (by decide)) ⟨Nat.le_refl _, Nat.le_refl _⟩ d_Model_rest_24 rfl ?_
      refine X_ifb_ne (tgt := 33) d_Model_rest_27 (by decide) (fun c_3 => ?_) (fun c_3 => ?_)
      ·
        refine X_aload_n d_Model_rest_33 rfl rfl ?_
        refine X_iload_n d_Model_rest_34 rfl rfl ?_
        refine X_callVv (rest := []) (by have q := c_Model_takes l G nn (d := d - 1) (by omega) I i (by omega) (mCur I) (I 59 33) (hR i (by omega)).2; rw [sc_self] at q; exact q) lk_Model_takes ml_Model_196 (xm_obj (show xYf 59 = some sModel from rfl)) rfl rfl (Nat.le_of_ble_eq_true rfl) (xRok (d' := d - 1) (by omega) (by decide)) ⟨Nat.le_refl _, Nat.le_refl _⟩ d_Model_rest_35 rfl ?_
        refine X_aload_n d_Model_rest_38 rfl rfl ?_
        refine X_iload_n d_Model_rest_39 rfl rfl ?_
        refine X_iload_n d_Model_rest_40 rfl rfl ?_
        refine X_iload_n d_Model_rest_41 rfl rfl ?_
        refine X_callVv (rest := []) (c_Model_waits l G nn (by omega) I ln i S hK (by omega) (mRow I i) (mRec_row I i) (I 59 33) sec eyes (xin_60 c_2).1 (xin_60 c_2).2) lk_Model_waits ml_Model_206 (xm_obj (show xYf 59 = some sModel from rfl)) rfl rfl (Nat.le_of_ble_eq_true rfl) (xRok (d' := d - 1) (by omega) (by decide)) ⟨Nat.le_refl _, Nat.le_refl _⟩ d_Model_rest_42 rfl ?_
        refine X_aload_n d_Model_rest_45 rfl rfl ?_
        refine X_iload_n d_Model_rest_46 rfl rfl ?_
        refine X_callVv (rest := []) (c_Model_lays l G nn (by omega) I i (by omega) (hLing S eyes (sec).toNatClampNeg (mRow I i)) (I 59 33) (h7_ling (hR i (by omega)).2 _)) lk_Model_lays ml_Model_203 (xm_obj (show xYf 59 = some sModel from rfl)) rfl rfl (Nat.le_of_ble_eq_true rfl) (xRok (d' := d - 1) (by omega) (by decide)) ⟨Nat.le_refl _, Nat.le_refl _⟩ d_Model_rest_47 rfl ?_
        refine X_aload_n d_Model_rest_50 rfl rfl ?_
        refine X_getI (v := (hLing S eyes (sec).toNatClampNeg (mRow I i)) 2) fg_Model_140 (show xYf 59 = some sModel from rfl) rfl ((congrFun (xup_n _ _ (by decide)) _).trans ((congrFun (xup_s _ _ _) _).trans (sc_29 _ _ _))) d_Model_rest_51 ?_
        exact X_iret rfl (congrArg (fun q => some (Value.int q)) (by subst hSS; first | (simp [aRest, c_1, nI_cl (show i < 2 ^ 31 by omega), c_2, c_3, xl_1_0, xl_1_1, xl_2_0, xl_2_1, xl_2_2]; done) | (exfalso; simp_all; done) | (clear hTs hR hK0 hK; simp_all [aRest, nI_cl (show i < 2 ^ 31 by omega)]; done))) (xle_of (congrArg (xm G xYf) (by first | (subst hSS; simp [okRest, c_1, nI_cl (show i < 2 ^ 31 by omega), c_2, c_3]; done) | (exfalso; simp_all; done)))) d_Model_rest_54
      ·
        refine X_ldc cs_Model_157 d_Model_rest_30 ?_
        exact X_iret rfl (congrArg (fun q => some (Value.int q)) (by subst hSS; first | (simp [aRest, c_1, nI_cl (show i < 2 ^ 31 by omega), c_2, c_3, xl_1_0, xl_1_1, xl_2_0, xl_2_1, xl_2_2]; done) | (exfalso; simp_all; done) | (clear hTs hR hK0 hK; simp_all [aRest, nI_cl (show i < 2 ^ 31 by omega)]; done))) (xle_of (congrArg (xm G xYf) (by first | (subst hSS; simp [okRest, c_1, nI_cl (show i < 2 ^ 31 by omega), c_2, c_3]; done) | (exfalso; simp_all; done)))) d_Model_rest_32
  ·
    refine X_ldc cs_Model_156 d_Model_rest_8 ?_
    exact X_iret rfl (congrArg (fun q => some (Value.int q)) (by subst hSS; first | (simp [aRest, c_1, xl_1_0, xl_1_1, xl_2_0, xl_2_1, xl_2_2]; done) | (exfalso; simp_all; done) | (clear hTs hR hK0 hK; simp_all [aRest]; done))) (xle_of (congrArg (xm G xYf) (by first | (subst hSS; simp [okRest, c_1]; done) | (exfalso; simp_all; done)))) d_Model_rest_10
