/-- the model's own numbers: r what it is beside, f of one who is tried, e in which second that one fell -/
def sc (r f : Nat → Int32) (e : Int32) : Nat → Int32 := xup (xup (xup (xup (xup r 29 (f 2)) 30 (f 5)) 31 (f 6)) 32 (f 7)) 33 e
theorem sc_33 (r f : Nat → Int32) (e : Int32) : sc r f e 33 = e := by simp [sc, xup]
theorem scs_33 (r f : Nat → Int32) (e v : Int32) : xup (sc r f e) 33 v = sc r f v := by funext k; simp only [sc, xup]; grind
theorem sc_o (r f : Nat → Int32) (e : Int32) {k : Nat} (h : k < 29) : sc r f e k = r k := by simp only [sc, xup]; grind
theorem sc_29 (r f : Nat → Int32) (e : Int32) : sc r f e 29 = f 2 := by simp [sc, xup]
theorem scs_29 (r f : Nat → Int32) (e v : Int32) : xup (sc r f e) 29 v = sc r (xup f 2 v) e := by funext k; simp only [sc, xup]; grind
theorem sc_30 (r f : Nat → Int32) (e : Int32) : sc r f e 30 = f 5 := by simp [sc, xup]
theorem scs_30 (r f : Nat → Int32) (e v : Int32) : xup (sc r f e) 30 v = sc r (xup f 5 v) e := by funext k; simp only [sc, xup]; grind
theorem sc_31 (r f : Nat → Int32) (e : Int32) : sc r f e 31 = f 6 := by simp [sc, xup]
theorem scs_31 (r f : Nat → Int32) (e v : Int32) : xup (sc r f e) 31 v = sc r (xup f 6 v) e := by funext k; simp only [sc, xup]; grind
theorem sc_32 (r f : Nat → Int32) (e : Int32) : sc r f e 32 = f 7 := by simp [sc, xup]
theorem scs_32 (r f : Nat → Int32) (e v : Int32) : xup (sc r f e) 32 v = sc r (xup f 7 v) e := by funext k; simp only [sc, xup]; grind
def mK (I : xI) (ln : Nat) (S : xSay) : Prop := mTx I ln S ∧ I 59 9 = nI ln ∧ ln < 6
theorem mRec_up {I : xI} {i : Nat} {f : Nat → Int32} (h : mRec I i f) {k : Nat} (hk : k = 2 ∨ 5 ≤ k) (v : Int32) : mRec I i (xup f k v) := by
  obtain ⟨h0, h1, h3, h4⟩ := h
  refine ⟨?_, ?_, ?_, ?_⟩ <;> rw [xup_n _ _ (by omega)] <;> assumption
theorem mRec_fade {I : xI} {i : Nat} {f : Nat → Int32} (h : mRec I i f) (S : xSay) (y : Int32) : mRec I i (hFade S y f) := mRec_up h (Or.inl rfl) _
theorem mRec_spin1 {I : xI} {i : Nat} {f : Nat → Int32} (h : mRec I i f) (S : xSay) (sp sd : Int32) : mRec I i (hSpin1 S sp sd f) := mRec_fade (mRec_up h (Or.inl rfl) _) S 1
theorem mRec_spinN {I : xI} {i : Nat} {f : Nat → Int32} (h : mRec I i f) (S : xSay) (sp sd : Int32) : ∀ k, mRec I i (hSpinN S sp sd k f)
  | 0 => h
  | k + 1 => mRec_spin1 (mRec_spinN h S sp sd k) S sp sd
theorem mRec_ling {I : xI} {i : Nat} {f : Nat → Int32} (h : mRec I i f) (S : xSay) (y : Int32) : ∀ k, mRec I i (hLing S y k f)
  | 0 => h
  | k + 1 => mRec_fade (mRec_ling h S y k) S y
theorem mRec_step {I : xI} {i : Nat} {f : Nat → Int32} (h : mRec I i f) (S : xSay) (p y : Int32) : mRec I i (hStep S p y f) := by
  unfold hStep
  split
  · split
    · exact mRec_up h (Or.inr (by decide)) _
    · exact mRec_fade (mRec_up (mRec_up h (Or.inr (by decide)) _) (Or.inr (by decide)) _) S y
  · exact mRec_up h (Or.inr (by decide)) _
theorem mRec_go {I : xI} {i : Nat} (S : xSay) (p y : Int32) : ∀ (k : Nat) {f : Nat → Int32}, mRec I i f → mRec I i (hGo S p y k f)
  | 0, _, h => h
  | k + 1, _, h => mRec_go S p y k (mRec_step h S p y)
theorem k_Model_asksOf (l : Launch) (G : xG) {d : Nat} (nn : Nat) (hd : 3 ≤ d) (I : xI) (ln i : Nat) (S : xSay) (hK : mK I ln S) (hi : i < 5) (f : Nat → Int32) (hf : mRec I i f) (e : Int32) (p : Nat) (hp : p < 3) (speed eyes : Int32) : XM l G d y_Model_asksOf b_Model_asksOf 5 (some .int) 0 0 xK0 [.ref (xg G 59), .int (nI p), .int (nI i), .int speed, .int eyes] nn (xm G xYf (xup I 59 (sc (I 59) f e))) (some (.int (S (nI p) speed eyes f))) nn (xm G xYf (xup I 59 (sc (I 59) f e))) :=
  c_Model_asksOf l G nn hd (xup I 59 (sc (I 59) f e)) p ln i hp hK.2.2 hi S (mTx_kept hK.1 (xup_n _ _ (by decide)) (xup_n _ _ (by decide))) ((congrFun (xup_s _ _ _) _).trans ((sc_o _ _ _ (by decide)).trans hK.2.1)) f ⟨hf.1.trans (congrFun (xup_n _ _ (by decide)).symm _), hf.2.1.trans (congrFun (xup_n _ _ (by decide)).symm _), hf.2.2.1.trans (congrFun (xup_n _ _ (by decide)).symm _), hf.2.2.2.trans (congrFun (xup_n _ _ (by decide)).symm _)⟩ ((congrFun (xup_s _ _ _) _).trans (sc_29 _ _ _)) speed eyes
theorem c_Model_fallsFrom (l : Launch) (G : xG) {d : Nat} (nn : Nat) (hd : 1 ≤ d) (I : xI) (ln i : Nat) (S : xSay) (hK : mK I ln S) (hi : i < 5) (f : Nat → Int32) (hf : mRec I i f) (e : Int32)  : XM l G d y_Model_fallsFrom b_Model_fallsFrom 2 (some .int) 0 0 xK0 [.ref (xg G 59), .int (nI i)] nn (xm G xYf (xup I 59 (sc (I 59) f e))) (some (.int (kFalls (f 0) (f 1)))) nn (xm G xYf (xup I 59 (sc (I 59) f e))) := by
  refine XM.of (by decide) (Nat.le_of_ble_eq_true rfl) (L := [(0, .ref (xg G 59)), (1, .int (nI i))]) rfl ?_
  refine X_aload_n d_Model_fallsFrom_0 rfl rfl ?_
  refine X_getR (r := 60) fg_Model_7 (show xYf 59 = some sModel from rfl) rfl d_Model_fallsFrom_1 ?_
  refine X_iload_n d_Model_fallsFrom_4 rfl rfl ?_
  refine X_aldI (v := f 0) (show xYf 60 = some (sInts 5) from rfl) (ixin (show nI i = nI i from rfl) (show i < 5 by omega) (by decide)) ((ixv (show nI i = nI i from rfl) (show i < 2 ^ 31 by omega) ((congrFun (xup_n _ _ (by decide)) _).trans (hf.1.symm)))) d_Model_fallsFrom_5 ?_
  refine X_iconst (v := 1) d_Model_fallsFrom_6 rfl ?_
  refine X_icmp_eq (tgt := 20) d_Model_fallsFrom_7 (by decide) (fun c_1 => ?_) (fun c_1 => ?_)
  ·
    refine X_sipush (v := 800) d_Model_fallsFrom_20 rfl ?_
    refine X_bipush (v := 20) d_Model_fallsFrom_23 rfl ?_
    refine X_aload_n d_Model_fallsFrom_25 rfl rfl ?_
    refine X_getR (r := 61) fg_Model_13 (show xYf 59 = some sModel from rfl) rfl d_Model_fallsFrom_26 ?_
    refine X_iload_n d_Model_fallsFrom_29 rfl rfl ?_
    refine X_aldI (v := f 1) (show xYf 61 = some (sInts 5) from rfl) (ixin (show nI i = nI i from rfl) (show i < 5 by omega) (by decide)) ((ixv (show nI i = nI i from rfl) (show i < 2 ^ 31 by omega) ((congrFun (xup_n _ _ (by decide)) _).trans (hf.2.1.symm)))) d_Model_fallsFrom_30 ?_
    refine X_imul d_Model_fallsFrom_31 ?_
    refine X_iadd d_Model_fallsFrom_32 ?_
    refine X_goto (tgt := 55) d_Model_fallsFrom_33 (by decide) ?_
    exact X_iret rfl (congrArg (fun q => some (Value.int q)) (by simp [kFalls, c_1])) (xle_rf _) d_Model_fallsFrom_55
  ·
    refine X_aload_n d_Model_fallsFrom_10 rfl rfl ?_
    refine X_getR (r := 60) fg_Model_7 (show xYf 59 = some sModel from rfl) rfl d_Model_fallsFrom_11 ?_
    refine X_iload_n d_Model_fallsFrom_14 rfl rfl ?_
    refine X_aldI (v := f 0) (show xYf 60 = some (sInts 5) from rfl) (ixin (show nI i = nI i from rfl) (show i < 5 by omega) (by decide)) ((ixv (show nI i = nI i from rfl) (show i < 2 ^ 31 by omega) ((congrFun (xup_n _ _ (by decide)) _).trans (hf.1.symm)))) d_Model_fallsFrom_15 ?_
    refine X_iconst (v := 3) d_Model_fallsFrom_16 rfl ?_
    refine X_icmp_ne (tgt := 36) d_Model_fallsFrom_17 (by decide) (fun c_2 => ?_) (fun c_2 => ?_)
    ·
      refine X_aload_n d_Model_fallsFrom_36 rfl rfl ?_
      refine X_getR (r := 60) fg_Model_7 (show xYf 59 = some sModel from rfl) rfl d_Model_fallsFrom_37 ?_
      refine X_iload_n d_Model_fallsFrom_40 rfl rfl ?_
      refine X_aldI (v := f 0) (show xYf 60 = some (sInts 5) from rfl) (ixin (show nI i = nI i from rfl) (show i < 5 by omega) (by decide)) ((ixv (show nI i = nI i from rfl) (show i < 2 ^ 31 by omega) ((congrFun (xup_n _ _ (by decide)) _).trans (hf.1.symm)))) d_Model_fallsFrom_41 ?_
      refine X_iconst (v := 4) d_Model_fallsFrom_42 rfl ?_
      refine X_icmp_ne (tgt := 52) d_Model_fallsFrom_43 (by decide) (fun c_3 => ?_) (fun c_3 => ?_)
      ·
        refine X_sipush (v := 800) d_Model_fallsFrom_52 rfl ?_
        exact X_iret rfl (congrArg (fun q => some (Value.int q)) (by simp [kFalls, c_1, c_2, c_3])) (xle_rf _) d_Model_fallsFrom_55
      ·
        refine X_sipush (v := 400) d_Model_fallsFrom_46 rfl ?_
        refine X_goto (tgt := 55) d_Model_fallsFrom_49 (by decide) ?_
        exact X_iret rfl (congrArg (fun q => some (Value.int q)) (by simp [kFalls, c_1, c_2, c_3])) (xle_rf _) d_Model_fallsFrom_55
    ·
      refine X_sipush (v := 800) d_Model_fallsFrom_20 rfl ?_
      refine X_bipush (v := 20) d_Model_fallsFrom_23 rfl ?_
      refine X_aload_n d_Model_fallsFrom_25 rfl rfl ?_
      refine X_getR (r := 61) fg_Model_13 (show xYf 59 = some sModel from rfl) rfl d_Model_fallsFrom_26 ?_
      refine X_iload_n d_Model_fallsFrom_29 rfl rfl ?_
      refine X_aldI (v := f 1) (show xYf 61 = some (sInts 5) from rfl) (ixin (show nI i = nI i from rfl) (show i < 5 by omega) (by decide)) ((ixv (show nI i = nI i from rfl) (show i < 2 ^ 31 by omega) ((congrFun (xup_n _ _ (by decide)) _).trans (hf.2.1.symm)))) d_Model_fallsFrom_30 ?_
      refine X_imul d_Model_fallsFrom_31 ?_
      refine X_iadd d_Model_fallsFrom_32 ?_
      refine X_goto (tgt := 55) d_Model_fallsFrom_33 (by decide) ?_
      exact X_iret rfl (congrArg (fun q => some (Value.int q)) (by simp [kFalls, c_1, c_2])) (xle_rf _) d_Model_fallsFrom_55
theorem c_Model_fadesOf (l : Launch) (G : xG) {d : Nat} (nn : Nat) (hd : 4 ≤ d) (I : xI) (ln i : Nat) (S : xSay) (hK : mK I ln S) (hi : i < 5) (f : Nat → Int32) (hf : mRec I i f) (e : Int32) (eyes : Int32) : XM l G d y_Model_fadesOf b_Model_fadesOf 4 (some .int) 0 0 xK0 [.ref (xg G 59), .int (nI i), .int eyes] nn (xm G xYf (xup I 59 (sc (I 59) f e))) (some (.int (kFades (f 0) (S 1 0 eyes f)))) nn (xm G xYf (xup I 59 (sc (I 59) f e))) := by
  refine XM.of (by decide) (Nat.le_of_ble_eq_true rfl) (L := [(0, .ref (xg G 59)), (1, .int (nI i)), (2, .int eyes)]) rfl ?_
  refine X_aload_n d_Model_fadesOf_0 rfl rfl ?_
  refine X_iconst (v := 1) d_Model_fadesOf_1 rfl ?_
  refine X_iload_n d_Model_fadesOf_2 rfl rfl ?_
  refine X_iconst (v := 0) d_Model_fadesOf_3 rfl ?_
  refine X_iload_n d_Model_fadesOf_4 rfl rfl ?_
  refine X_callV (v := .int (S 1 0 eyes f)) (rest := []) (k_Model_asksOf l G nn (by omega) I ln i S hK hi f hf e 1 (by omega) 0 eyes) lk_Model_asksOf ml_Model_152 (xm_obj (show xYf 59 = some sModel from rfl)) rfl rfl (Nat.le_of_ble_eq_true rfl) (xRok (d' := d - 1) (by omega) (by decide)) ⟨Nat.le_refl _, Nat.le_refl _⟩ d_Model_fadesOf_5 rfl ?_
  refine X_istore_n d_Model_fadesOf_8 rfl (by decide) [1, 2, 3, 0] (L' := [(0, .ref (xg G 59)), (1, .int (nI i)), (2, .int eyes), (3, .int (S 1 0 eyes f))]) rfl ?_
  refine X_aload_n d_Model_fadesOf_9 rfl rfl ?_
  refine X_getR (r := 60) fg_Model_7 (show xYf 59 = some sModel from rfl) rfl d_Model_fadesOf_10 ?_
  refine X_iload_n d_Model_fadesOf_13 rfl rfl ?_
  refine X_aldI (v := f 0) (show xYf 60 = some (sInts 5) from rfl) (ixin (show nI i = nI i from rfl) (show i < 5 by omega) (by decide)) ((ixv (show nI i = nI i from rfl) (show i < 2 ^ 31 by omega) ((congrFun (xup_n _ _ (by decide)) _).trans (hf.1.symm)))) d_Model_fadesOf_14 ?_
  refine X_iconst (v := 2) d_Model_fadesOf_15 rfl ?_
  refine X_icmp_ne (tgt := 25) d_Model_fadesOf_16 (by decide) (fun c_1 => ?_) (fun c_1 => ?_)
  ·
    refine X_aload_n d_Model_fadesOf_25 rfl rfl ?_
    refine X_getR (r := 60) fg_Model_7 (show xYf 59 = some sModel from rfl) rfl d_Model_fadesOf_26 ?_
    refine X_iload_n d_Model_fadesOf_29 rfl rfl ?_
    refine X_aldI (v := f 0) (show xYf 60 = some (sInts 5) from rfl) (ixin (show nI i = nI i from rfl) (show i < 5 by omega) (by decide)) ((ixv (show nI i = nI i from rfl) (show i < 2 ^ 31 by omega) ((congrFun (xup_n _ _ (by decide)) _).trans (hf.1.symm)))) d_Model_fadesOf_30 ?_
    refine X_iconst (v := 4) d_Model_fadesOf_31 rfl ?_
    refine X_icmp_ne (tgt := 43) d_Model_fadesOf_32 (by decide) (fun c_2 => ?_) (fun c_2 => ?_)
    ·
      refine X_iload_n d_Model_fadesOf_43 rfl rfl ?_
      refine X_iconst (v := 0) d_Model_fadesOf_44 rfl ?_
      refine X_bipush (v := 100) d_Model_fadesOf_45 rfl ?_
      refine X_callS (v := .int (xbd (S 1 0 eyes f) 0 100)) (rest := []) (c_Model_within l G nn _ (by omega) (S 1 0 eyes f) 0 100) lk_Model_within ml_Model_146 rfl (Nat.le_of_ble_eq_true rfl) (xRok (d' := d - 1) (by omega) (by decide)) ⟨Nat.le_refl _, Nat.le_refl _⟩ d_Model_fadesOf_47 rfl ?_
      exact X_iret rfl (congrArg (fun q => some (Value.int q)) (by simp [kFades, c_1, c_2])) (xle_rf _) d_Model_fadesOf_50
    ·
      refine X_iload_n d_Model_fadesOf_35 rfl rfl ?_
      refine X_iconst (v := 5) d_Model_fadesOf_36 rfl ?_
      refine X_iadd d_Model_fadesOf_37 ?_
      refine X_iconst (v := 3) d_Model_fadesOf_38 rfl ?_
      refine X_idiv d_Model_fadesOf_39 (by decide) ?_
      refine X_goto (tgt := 44) d_Model_fadesOf_40 (by decide) ?_
      refine X_iconst (v := 0) d_Model_fadesOf_44 rfl ?_
      refine X_bipush (v := 100) d_Model_fadesOf_45 rfl ?_
      refine X_callS (v := .int (xbd (((S 1 0 eyes f) + 5) / 3) 0 100)) (rest := []) (c_Model_within l G nn _ (by omega) (((S 1 0 eyes f) + 5) / 3) 0 100) lk_Model_within ml_Model_146 rfl (Nat.le_of_ble_eq_true rfl) (xRok (d' := d - 1) (by omega) (by decide)) ⟨Nat.le_refl _, Nat.le_refl _⟩ d_Model_fadesOf_47 rfl ?_
      exact X_iret rfl (congrArg (fun q => some (Value.int q)) (by simp [kFades, c_1, c_2])) (xle_rf _) d_Model_fadesOf_50
  ·
    refine X_iload_n d_Model_fadesOf_19 rfl rfl ?_
    refine X_iconst (v := 5) d_Model_fadesOf_20 rfl ?_
    refine X_iadd d_Model_fadesOf_21 ?_
    refine X_goto (tgt := 44) d_Model_fadesOf_22 (by decide) ?_
    refine X_iconst (v := 0) d_Model_fadesOf_44 rfl ?_
    refine X_bipush (v := 100) d_Model_fadesOf_45 rfl ?_
    refine X_callS (v := .int (xbd ((S 1 0 eyes f) + 5) 0 100)) (rest := []) (c_Model_within l G nn _ (by omega) ((S 1 0 eyes f) + 5) 0 100) lk_Model_within ml_Model_146 rfl (Nat.le_of_ble_eq_true rfl) (xRok (d' := d - 1) (by omega) (by decide)) ⟨Nat.le_refl _, Nat.le_refl _⟩ d_Model_fadesOf_47 rfl ?_
    exact X_iret rfl (congrArg (fun q => some (Value.int q)) (by simp [kFades, c_1])) (xle_rf _) d_Model_fadesOf_50
theorem c_Model_fade (l : Launch) (G : xG) {d : Nat} (nn : Nat) (hd : 5 ≤ d) (I : xI) (ln i : Nat) (S : xSay) (hK : mK I ln S) (hi : i < 5) (f : Nat → Int32) (hf : mRec I i f) (e : Int32) (eyes : Int32) : XM l G d y_Model_fade b_Model_fade 3 (none) 0 0 xK0 [.ref (xg G 59), .int (nI i), .int eyes] nn (xm G xYf (xup I 59 (sc (I 59) f e))) (none) nn (xm G xYf (xup I 59 (sc (I 59) (hFade S eyes f) e))) := by
  refine XM.of (by decide) (Nat.le_of_ble_eq_true rfl) (L := [(0, .ref (xg G 59)), (1, .int (nI i)), (2, .int eyes)]) rfl ?_
  refine X_aload_n d_Model_fade_0 rfl rfl ?_
  refine X_dup d_Model_fade_1 rfl ?_
  refine X_getI (v := f 2) fg_Model_140 (show xYf 59 = some sModel from rfl) rfl ((congrFun (xup_s _ _ _) _).trans (sc_29 _ _ _)) d_Model_fade_2 ?_
  refine X_aload_n d_Model_fade_5 rfl rfl ?_
  refine X_getI (v := f 2) fg_Model_140 (show xYf 59 = some sModel from rfl) rfl ((congrFun (xup_s _ _ _) _).trans (sc_29 _ _ _)) d_Model_fade_6 ?_
  refine X_aload_n d_Model_fade_9 rfl rfl ?_
  refine X_iload_n d_Model_fade_10 rfl rfl ?_
  refine X_iload_n d_Model_fade_11 rfl rfl ?_
  refine X_callV (v := .int (kFades (f 0) (S 1 0 eyes f))) (rest := [.int (f 2), .int (f 2), .ref (xg G 59)]) (c_Model_fadesOf l G nn (by omega) I ln i S hK hi f hf e eyes) lk_Model_fadesOf ml_Model_161 (xm_obj (show xYf 59 = some sModel from rfl)) rfl rfl (Nat.le_of_ble_eq_true rfl) (xRok (d' := d - 1) (by omega) (by decide)) ⟨Nat.le_refl _, Nat.le_refl _⟩ d_Model_fade_12 rfl ?_
  refine X_imul d_Model_fade_15 ?_
  refine X_bipush (v := 100) d_Model_fade_16 rfl ?_
  refine X_idiv d_Model_fade_18 (by decide) ?_
  refine X_isub d_Model_fade_19 ?_
  refine X_putI fp_Model_140 (show xYf 59 = some sModel from rfl) rfl d_Model_fade_20 ?_
  rw [xw_rec]
  rw [scs_29]
  exact X_vret rfl rfl (xle_rf _) d_Model_fade_23
