/-- the second in which one fell, behind one more -/
def mE (f : Nat → Int32) (e second : Int32) : Int32 := if f 7 = 0 then (if hMust f = true then second else e) else e
def mEs (S : xSay) (p y : Int32) (f : Nat → Int32) (e : Int32) : Nat → Int32
  | 0 => e
  | k + 1 => mE (hGo S p y k f) (mEs S p y f e k) (nI k)
theorem hGo_7 (S : xSay) (p y : Int32) : ∀ (k : Nat) {f : Nat → Int32}, (f 7 = 0 ∨ f 7 = 1) → (hGo S p y k f 7 = 0 ∨ hGo S p y k f 7 = 1)
  | 0, _, h => h
  | k + 1, _, h => hGo_7 S p y k (hStep_7 S p y _ h)
theorem c_Model_step (l : Launch) (G : xG) {d : Nat} (nn : Nat) (hd : 6 ≤ d) (I : xI) (ln i : Nat) (S : xSay) (hK : mK I ln S) (hi : i < 5) (f : Nat → Int32) (hf : mRec I i f) (e : Int32) (pace eyes sec : Int32) (h7 : f 7 = 0 ∨ f 7 = 1) : XM l G d y_Model_step b_Model_step 6 (none) 0 0 xK0 [.ref (xg G 59), .int (nI i), .int pace, .int eyes, .int sec] nn (xm G xYf (xup I 59 (sc (I 59) f e))) (none) nn (xm G xYf (xup I 59 (sc (I 59) (hStep S pace eyes f) (mE f e sec)))) := by
  refine XM.of (by decide) (Nat.le_of_ble_eq_true rfl) (L := [(0, .ref (xg G 59)), (1, .int (nI i)), (2, .int pace), (3, .int eyes), (4, .int sec)]) rfl ?_
  refine X_aload_n d_Model_step_0 rfl rfl ?_
  refine X_getI (v := f 7) fg_Model_174 (show xYf 59 = some sModel from rfl) rfl ((congrFun (xup_s _ _ _) _).trans (sc_32 _ _ _)) d_Model_step_1 ?_
  refine X_if_eq (tgt := 8) d_Model_step_4 (by decide) (fun c_1 => ?_) (fun c_1 => ?_)
  ·
    have h70 : f 7 = 0 := c_1
    refine X_aload_n d_Model_step_8 rfl rfl ?_
    refine X_getI (v := f 2) fg_Model_140 (show xYf 59 = some sModel from rfl) rfl ((congrFun (xup_s _ _ _) _).trans (sc_29 _ _ _)) d_Model_step_9 ?_
    refine X_callS (v := .int (xabs (f 2))) (rest := []) (c_Model_size0 l G nn _ (by omega) (f 2)) lk_Model_size0 ml_Model_164 rfl (Nat.le_of_ble_eq_true rfl) (xRok (d' := d - 1) (by omega) (by decide)) ⟨Nat.le_refl _, Nat.le_refl _⟩ d_Model_step_12 rfl ?_
    refine X_aload_n d_Model_step_15 rfl rfl ?_
    refine X_iload_n d_Model_step_16 rfl rfl ?_
    refine X_callV (v := .int (kFalls (f 0) (f 1))) (rest := [.int (xabs (f 2))]) (c_Model_fallsFrom l G nn (by omega) I ln i S hK hi f hf e ) lk_Model_fallsFrom ml_Model_158 (xm_obj (show xYf 59 = some sModel from rfl)) rfl rfl (Nat.le_of_ble_eq_true rfl) (xRok (d' := d - 1) (by omega) (by decide)) ⟨Nat.le_refl _, Nat.le_refl _⟩ d_Model_step_17 rfl ?_
    refine X_icmp_lt (tgt := 35) d_Model_step_20 (by decide) (fun c_2 => ?_) (fun c_2 => ?_)
    ·
      have hmf : ¬ hMust f = true := fun z => by rw [hMust] at z; exact absurd (of_decide_eq_true z) (Int32.not_le.mpr c_2)
      refine X_aload_n d_Model_step_35 rfl rfl ?_
      refine X_iconst (v := 2) d_Model_step_36 rfl ?_
      refine X_iload_n d_Model_step_37 rfl rfl ?_
      refine X_iload_n d_Model_step_38 rfl rfl ?_
      refine X_iload_n d_Model_step_39 rfl rfl ?_
      refine X_callV (v := .int (S 2 pace eyes f)) (rest := []) (k_Model_asksOf l G nn (by omega) I ln i S hK hi f hf e 2 (by omega) pace eyes) lk_Model_asksOf ml_Model_152 (xm_obj (show xYf 59 = some sModel from rfl)) rfl rfl (Nat.le_of_ble_eq_true rfl) (xRok (d' := d - 1) (by omega) (by decide)) ⟨Nat.le_refl _, Nat.le_refl _⟩ d_Model_step_40 rfl ?_
      refine X_istore d_Model_step_43 (by decide) [1, 2, 3, 4, 5, 0] (L' := [(0, .ref (xg G 59)), (1, .int (nI i)), (2, .int pace), (3, .int eyes), (4, .int sec), (5, .int (S 2 pace eyes f))]) rfl ?_
      refine X_aload_n d_Model_step_45 rfl rfl ?_
      refine X_aload_n d_Model_step_46 rfl rfl ?_
      refine X_getI (v := f 5) fg_Model_181 (show xYf 59 = some sModel from rfl) rfl ((congrFun (xup_s _ _ _) _).trans (sc_30 _ _ _)) d_Model_step_47 ?_
      refine X_iload_n d_Model_step_50 rfl rfl ?_
      refine X_iadd d_Model_step_51 ?_
      refine X_ldc cs_Model_184 d_Model_step_52 ?_
      refine X_ldc cs_Model_185 d_Model_step_54 ?_
      refine X_callS (v := .int (xbd ((f 5) + pace) (-99999) 99999)) (rest := [.ref (xg G 59)]) (c_Model_within l G nn _ (by omega) ((f 5) + pace) (-99999) 99999) lk_Model_within ml_Model_146 rfl (Nat.le_of_ble_eq_true rfl) (xRok (d' := d - 1) (by omega) (by decide)) ⟨Nat.le_refl _, Nat.le_refl _⟩ d_Model_step_56 rfl ?_
      refine X_putI fp_Model_181 (show xYf 59 = some sModel from rfl) rfl d_Model_step_59 ?_
      rw [xw_rec]
      rw [scs_30]
      refine X_aload_n d_Model_step_62 rfl rfl ?_
      refine X_aload_n d_Model_step_63 rfl rfl ?_
      refine X_getI (v := (xup f 5 (xbd ((f 5) + pace) (-99999) 99999)) 6) fg_Model_186 (show xYf 59 = some sModel from rfl) rfl ((congrFun (xup_s _ _ _) _).trans (sc_31 _ _ _)) d_Model_step_64 ?_
      refine X_aload_n d_Model_step_67 rfl rfl ?_
      refine X_getI (v := (xup f 5 (xbd ((f 5) + pace) (-99999) 99999)) 2) fg_Model_140 (show xYf 59 = some sModel from rfl) rfl ((congrFun (xup_s _ _ _) _).trans (sc_29 _ _ _)) d_Model_step_68 ?_
      refine X_iload d_Model_step_71 rfl ?_
      refine X_imul d_Model_step_73 ?_
      refine X_sipush (v := 1000) d_Model_step_74 rfl ?_
      refine X_idiv d_Model_step_77 (by decide) ?_
      refine X_iadd d_Model_step_78 ?_
      refine X_ldc cs_Model_184 d_Model_step_79 ?_
      refine X_ldc cs_Model_185 d_Model_step_81 ?_
      refine X_callS (v := .int (xbd (((xup f 5 (xbd ((f 5) + pace) (-99999) 99999)) 6) + ((((xup f 5 (xbd ((f 5) + pace) (-99999) 99999)) 2) * (S 2 pace eyes f)) / 1000)) (-99999) 99999)) (rest := [.ref (xg G 59)]) (c_Model_within l G nn _ (by omega) (((xup f 5 (xbd ((f 5) + pace) (-99999) 99999)) 6) + ((((xup f 5 (xbd ((f 5) + pace) (-99999) 99999)) 2) * (S 2 pace eyes f)) / 1000)) (-99999) 99999) lk_Model_within ml_Model_146 rfl (Nat.le_of_ble_eq_true rfl) (xRok (d' := d - 1) (by omega) (by decide)) ⟨Nat.le_refl _, Nat.le_refl _⟩ d_Model_step_83 rfl ?_
      refine X_putI fp_Model_186 (show xYf 59 = some sModel from rfl) rfl d_Model_step_86 ?_
      rw [xw_rec]
      rw [scs_31]
      refine X_aload_n d_Model_step_89 rfl rfl ?_
      refine X_iload_n d_Model_step_90 rfl rfl ?_
      refine X_iload_n d_Model_step_91 rfl rfl ?_
      refine X_callVv (rest := []) (c_Model_fade l G nn (by omega) I ln i S hK hi (xup (xup f 5 (xbd ((f 5) + pace) (-99999) 99999)) 6 (xbd (((xup f 5 (xbd ((f 5) + pace) (-99999) 99999)) 6) + ((((xup f 5 (xbd ((f 5) + pace) (-99999) 99999)) 2) * (S 2 pace eyes f)) / 1000)) (-99999) 99999)) (mRec_up (mRec_up hf (Or.inr (by decide)) _) (Or.inr (by decide)) _) e eyes) lk_Model_fade ml_Model_170 (xm_obj (show xYf 59 = some sModel from rfl)) rfl rfl (Nat.le_of_ble_eq_true rfl) (xRok (d' := d - 1) (by omega) (by decide)) ⟨Nat.le_refl _, Nat.le_refl _⟩ d_Model_step_92 rfl ?_
      exact X_vret rfl rfl (xle_of (congrArg (xm G xYf) (by rw [hStep, if_pos h70, if_neg hmf, mE, if_pos h70, if_neg hmf]; first | done | rfl))) d_Model_step_95
    ·
      have hmt : hMust f = true := by rw [hMust]; exact decide_eq_true (Int32.not_lt.mp c_2)
      refine X_aload_n d_Model_step_23 rfl rfl ?_
      refine X_iconst (v := 1) d_Model_step_24 rfl ?_
      refine X_putZ fp_Model_174 (show xYf 59 = some sModel from rfl) rfl (by decide) d_Model_step_25 ?_
      rw [xw_rec]
      rw [scs_32]
      refine X_aload_n d_Model_step_28 rfl rfl ?_
      refine X_iload d_Model_step_29 rfl ?_
      refine X_putI fp_Model_178 (show xYf 59 = some sModel from rfl) rfl d_Model_step_31 ?_
      rw [xw_rec]
      rw [scs_33]
      exact X_vret rfl rfl (xle_of (congrArg (xm G xYf) (by rw [hStep, if_pos h70, if_pos hmt, mE, if_pos h70, if_pos hmt]))) d_Model_step_34
  ·
    exact X_vret rfl rfl (xle_of (congrArg (xm G xYf) (by rw [hStep_down _ _ _ _ (h7.resolve_left c_1), mE, if_neg c_1]))) d_Model_step_7
def Q_Model_walks (l : Launch) (G : xG) (d nn : Nat) (I : xI) (i : Nat) (S : xSay) (pace eyes : Int32) (f : Nat → Int32) (e : Int32) (N k : Nat) : Prop := XW l G (xR d 0 0) y_Model_walks b_Model_walks 6 none xK0 (xZ G nn (xm G xYf (xup I 59 (sc (I 59) (hGo S pace eyes N f) (mEs S pace eyes f e N)))) none 0 0) nn (xm G xYf (xup I 59 (sc (I 59) (hGo S pace eyes k f) (mEs S pace eyes f e k)))) 0 0 3 [(0, .ref (xg G 59)), (1, .int (nI i)), (2, .int (nI N)), (3, .int pace), (4, .int eyes), (5, .int (nI k))] []
theorem w_Model_walks (l : Launch) (G : xG) {d : Nat} (nn : Nat) (hd : 7 ≤ d) (I : xI) (ln i : Nat) (S : xSay) (hK : mK I ln S) (hi : i < 5) (f : Nat → Int32) (hf : mRec I i f) (e : Int32) (pace eyes : Int32) (h7 : f 7 = 0 ∨ f 7 = 1) (N : Nat) (hN2 : N < 1000) (k : Nat) (hk : k ≤ N) (ih : k < N → Q_Model_walks l G d nn I i S pace eyes f e N (k + 1)) : Q_Model_walks l G d nn I i S pace eyes f e N k := by
  unfold Q_Model_walks
  refine X_iload d_Model_walks_3 rfl ?_
  refine X_iload_n d_Model_walks_5 rfl rfl ?_
  refine X_icmp_ge (tgt := 25) d_Model_walks_6 (by decide) (fun c_1 => ?_) (fun c_1 => ?_)
  ·
    have hz : k = N := nI_done hk (by omega) c_1
    subst hz
    exact X_vret rfl rfl (xle_rf _) d_Model_walks_25
  ·
    refine X_aload_n d_Model_walks_9 rfl rfl ?_
    refine X_iload_n d_Model_walks_10 rfl rfl ?_
    refine X_iload_n d_Model_walks_11 rfl rfl ?_
    refine X_iload d_Model_walks_12 rfl ?_
    refine X_iload d_Model_walks_14 rfl ?_
    refine X_callVv (rest := []) (c_Model_step l G nn (by omega) I ln i S hK hi (hGo S pace eyes k f) (mRec_go _ _ _ _ hf) (mEs S pace eyes f e k) pace eyes (nI k) (hGo_7 _ _ _ _ h7)) lk_Model_step ml_Model_189 (xm_obj (show xYf 59 = some sModel from rfl)) rfl rfl (Nat.le_of_ble_eq_true rfl) (xRok (d' := d - 1) (by omega) (by decide)) ⟨Nat.le_refl _, Nat.le_refl _⟩ d_Model_walks_16 rfl ?_
    refine X_iinc d_Model_walks_19 rfl (v := (nI k) + 1) rfl (by decide) [1, 2, 3, 4, 5, 0] (L' := [(0, .ref (xg G 59)), (1, .int (nI i)), (2, .int (nI N)), (3, .int pace), (4, .int eyes), (5, .int ((nI k) + 1))]) rfl ?_
    refine X_goto (tgt := 3) d_Model_walks_22 (by decide) ?_
    have hlt : k < N := nI_more hk (by omega) c_1
    have key := ih hlt
    unfold Q_Model_walks at key
    rw [hGo_succ] at key
    rw [nI_1]
    exact key
theorem c_Model_walks (l : Launch) (G : xG) {d : Nat} (nn : Nat) (hd : 7 ≤ d) (I : xI) (ln i : Nat) (S : xSay) (hK : mK I ln S) (hi : i < 5) (f : Nat → Int32) (hf : mRec I i f) (e : Int32) (s pace eyes : Int32) (h0 : ¬ s < 0) (h1 : s ≤ 100) (h7 : f 7 = 0 ∨ f 7 = 1) : XM l G d y_Model_walks b_Model_walks 6 (none) 0 0 xK0 [.ref (xg G 59), .int (nI i), .int s, .int pace, .int eyes] nn (xm G xYf (xup I 59 (sc (I 59) f e))) (none) nn (xm G xYf (xup I 59 (sc (I 59) (hGo S pace eyes s.toNatClampNeg f) (mEs S pace eyes f e s.toNatClampNeg)))) := by
  obtain ⟨N, hN1, rfl⟩ := nI_of2 (n := 100) rfl h0 h1
  refine XM.of (by decide) (Nat.le_of_ble_eq_true rfl) (L := [(0, .ref (xg G 59)), (1, .int (nI i)), (2, .int (nI N)), (3, .int pace), (4, .int eyes)]) rfl ?_
  refine X_iconst (v := 0) d_Model_walks_0 rfl ?_
  refine X_istore d_Model_walks_1 (by decide) [1, 2, 3, 4, 5, 0] (L' := [(0, .ref (xg G 59)), (1, .int (nI i)), (2, .int (nI N)), (3, .int pace), (4, .int eyes), (5, .int 0)]) rfl ?_
  have hx := xloop (T := N) (fun k hk ih => w_Model_walks l G nn (by omega) I ln i S hK hi f hf e pace eyes h7 N (by omega) k hk ih) 0 (Nat.zero_le _)
  unfold Q_Model_walks at hx
  rw [nI_cl (show N < 2 ^ 31 by omega)]
  exact hx
def mRow (I : xI) (i : Nat) : Nat → Int32 := fun j => if j = 0 then I 60 i else if j = 1 then I 61 i else if j = 2 then I 62 (6 * i) else if j = 3 then I 62 (6 * i + 1) else if j = 4 then I 62 (6 * i + 2) else if j = 5 then I 62 (6 * i + 3) else if j = 6 then I 62 (6 * i + 4) else if j = 7 then I 62 (6 * i + 5) else 0
theorem mRec_row (I : xI) (i : Nat) : mRec I i (mRow I i) := ⟨rfl, rfl, rfl, rfl⟩
theorem mRec_std {I : xI} {i : Nat} {f : Nat → Int32} (h : mRec I i f) : mRec I i (hStd f) := mRec_up (mRec_up (mRec_up h (Or.inr (by decide)) _) (Or.inr (by decide)) _) (Or.inr (by decide)) _
theorem scEq (r : Nat → Int32) {f g : Nat → Int32} {e e' : Int32} (h2 : f 2 = g 2) (h5 : f 5 = g 5) (h6 : f 6 = g 6) (h7 : f 7 = g 7) (he : e = e') : sc r f e = sc r g e' := by subst he; unfold sc; rw [h2, h5, h6, h7]
def mCur (I : xI) : Nat → Int32 := fun j => if j = 2 then I 59 29 else if j = 5 then I 59 30 else if j = 6 then I 59 31 else I 59 32
theorem sc_self (I : xI) : xup I 59 (sc (I 59) (mCur I) (I 59 33)) = I := by
  have e : sc (I 59) (mCur I) (I 59 33) = I 59 := by
    funext k
    simp only [sc, mCur, xup]
    grind
  rw [e, xup_self]
theorem c_Model_begins (l : Launch) (G : xG) {d : Nat} (nn : Nat) (hd : 1 ≤ d) (I : xI) (i : Nat) (hi : i < 5) (f : Nat → Int32) (e : Int32)  : XM l G d y_Model_begins b_Model_begins 2 (none) 0 0 xK0 [.ref (xg G 59), .int (nI i)] nn (xm G xYf (xup I 59 (sc (I 59) f e))) (none) nn (xm G xYf (xup I 59 (sc (I 59) (hStd (mRow I i)) (-1)))) := by
  refine XM.of (by decide) (Nat.le_of_ble_eq_true rfl) (L := [(0, .ref (xg G 59)), (1, .int (nI i))]) rfl ?_
  refine X_aload_n d_Model_begins_0 rfl rfl ?_
  refine X_aload_n d_Model_begins_1 rfl rfl ?_
  refine X_getR (r := 62) fg_Model_16 (show xYf 59 = some sModel from rfl) rfl d_Model_begins_2 ?_
  refine X_bipush (v := 6) d_Model_begins_5 rfl ?_
  refine X_iload_n d_Model_begins_7 rfl rfl ?_
  refine X_imul d_Model_begins_8 ?_
  refine X_aldI (v := I 62 (6 * i)) (show xYf 62 = some (sInts 30) from rfl) (ixin (ixM (show (6 : Int32) = nI 6 from rfl) (show nI i = nI i from rfl)) (show 6 * i < 30 by omega) (by decide)) ((ixv (ixM (show (6 : Int32) = nI 6 from rfl) (show nI i = nI i from rfl)) (show 6 * i < 2 ^ 31 by omega) (congrFun (xup_n _ _ (by decide)) _))) d_Model_begins_9 ?_
  refine X_putI fp_Model_140 (show xYf 59 = some sModel from rfl) rfl d_Model_begins_10 ?_
  rw [xw_rec]
  rw [scs_29]
  refine X_aload_n d_Model_begins_13 rfl rfl ?_
  refine X_iconst (v := 0) d_Model_begins_14 rfl ?_
  refine X_putI fp_Model_181 (show xYf 59 = some sModel from rfl) rfl d_Model_begins_15 ?_
  rw [xw_rec]
  rw [scs_30]
  refine X_aload_n d_Model_begins_18 rfl rfl ?_
  refine X_iconst (v := 0) d_Model_begins_19 rfl ?_
  refine X_putI fp_Model_186 (show xYf 59 = some sModel from rfl) rfl d_Model_begins_20 ?_
  rw [xw_rec]
  rw [scs_31]
  refine X_aload_n d_Model_begins_23 rfl rfl ?_
  refine X_iconst (v := 0) d_Model_begins_24 rfl ?_
  refine X_putZ fp_Model_174 (show xYf 59 = some sModel from rfl) rfl (by decide) d_Model_begins_25 ?_
  rw [xw_rec]
  rw [scs_32]
  refine X_aload_n d_Model_begins_28 rfl rfl ?_
  refine X_iconst (v := -1) d_Model_begins_29 rfl ?_
  refine X_putI fp_Model_178 (show xYf 59 = some sModel from rfl) rfl d_Model_begins_30 ?_
  rw [xw_rec]
  rw [scs_33]
  exact X_vret rfl rfl (xle_of (congrArg (fun z => xm G xYf (xup I 59 z)) (scEq _ rfl rfl rfl rfl rfl))) d_Model_begins_33
theorem c_Model_takes (l : Launch) (G : xG) {d : Nat} (nn : Nat) (hd : 1 ≤ d) (I : xI) (i : Nat) (hi : i < 5) (f : Nat → Int32) (e : Int32) (hdn : I 62 (6 * i + 5) = 0 ∨ I 62 (6 * i + 5) = 1) : XM l G d y_Model_takes b_Model_takes 2 (none) 0 0 xK0 [.ref (xg G 59), .int (nI i)] nn (xm G xYf (xup I 59 (sc (I 59) f e))) (none) nn (xm G xYf (xup I 59 (sc (I 59) (mRow I i) e))) := by
  refine XM.of (by decide) (Nat.le_of_ble_eq_true rfl) (L := [(0, .ref (xg G 59)), (1, .int (nI i))]) rfl ?_
  refine X_aload_n d_Model_takes_0 rfl rfl ?_
  refine X_aload_n d_Model_takes_1 rfl rfl ?_
  refine X_getR (r := 62) fg_Model_16 (show xYf 59 = some sModel from rfl) rfl d_Model_takes_2 ?_
  refine X_bipush (v := 6) d_Model_takes_5 rfl ?_
  refine X_iload_n d_Model_takes_7 rfl rfl ?_
  refine X_imul d_Model_takes_8 ?_
  refine X_aldI (v := I 62 (6 * i)) (show xYf 62 = some (sInts 30) from rfl) (ixin (ixM (show (6 : Int32) = nI 6 from rfl) (show nI i = nI i from rfl)) (show 6 * i < 30 by omega) (by decide)) ((ixv (ixM (show (6 : Int32) = nI 6 from rfl) (show nI i = nI i from rfl)) (show 6 * i < 2 ^ 31 by omega) (congrFun (xup_n _ _ (by decide)) _))) d_Model_takes_9 ?_
  refine X_putI fp_Model_140 (show xYf 59 = some sModel from rfl) rfl d_Model_takes_10 ?_
  rw [xw_rec]
  rw [scs_29]
  refine X_aload_n d_Model_takes_13 rfl rfl ?_
  refine X_aload_n d_Model_takes_14 rfl rfl ?_
  refine X_getR (r := 62) fg_Model_16 (show xYf 59 = some sModel from rfl) rfl d_Model_takes_15 ?_
  refine X_bipush (v := 6) d_Model_takes_18 rfl ?_
  refine X_iload_n d_Model_takes_20 rfl rfl ?_
  refine X_imul d_Model_takes_21 ?_
  refine X_iconst (v := 3) d_Model_takes_22 rfl ?_
  refine X_iadd d_Model_takes_23 ?_
  refine X_aldI (v := I 62 (6 * i + 3)) (show xYf 62 = some (sInts 30) from rfl) (ixin (ixA (ixM (show (6 : Int32) = nI 6 from rfl) (show nI i = nI i from rfl)) (show (3 : Int32) = nI 3 from rfl)) (show 6 * i + 3 < 30 by omega) (by decide)) ((ixv (ixA (ixM (show (6 : Int32) = nI 6 from rfl) (show nI i = nI i from rfl)) (show (3 : Int32) = nI 3 from rfl)) (show 6 * i + 3 < 2 ^ 31 by omega) (congrFun (xup_n _ _ (by decide)) _))) d_Model_takes_24 ?_
  refine X_putI fp_Model_181 (show xYf 59 = some sModel from rfl) rfl d_Model_takes_25 ?_
  rw [xw_rec]
  rw [scs_30]
  refine X_aload_n d_Model_takes_28 rfl rfl ?_
  refine X_aload_n d_Model_takes_29 rfl rfl ?_
  refine X_getR (r := 62) fg_Model_16 (show xYf 59 = some sModel from rfl) rfl d_Model_takes_30 ?_
  refine X_bipush (v := 6) d_Model_takes_33 rfl ?_
  refine X_iload_n d_Model_takes_35 rfl rfl ?_
  refine X_imul d_Model_takes_36 ?_
  refine X_iconst (v := 4) d_Model_takes_37 rfl ?_
  refine X_iadd d_Model_takes_38 ?_
  refine X_aldI (v := I 62 (6 * i + 4)) (show xYf 62 = some (sInts 30) from rfl) (ixin (ixA (ixM (show (6 : Int32) = nI 6 from rfl) (show nI i = nI i from rfl)) (show (4 : Int32) = nI 4 from rfl)) (show 6 * i + 4 < 30 by omega) (by decide)) ((ixv (ixA (ixM (show (6 : Int32) = nI 6 from rfl) (show nI i = nI i from rfl)) (show (4 : Int32) = nI 4 from rfl)) (show 6 * i + 4 < 2 ^ 31 by omega) (congrFun (xup_n _ _ (by decide)) _))) d_Model_takes_39 ?_
  refine X_putI fp_Model_186 (show xYf 59 = some sModel from rfl) rfl d_Model_takes_40 ?_
  rw [xw_rec]
  rw [scs_31]
  refine X_aload_n d_Model_takes_43 rfl rfl ?_
  refine X_aload_n d_Model_takes_44 rfl rfl ?_
  refine X_getR (r := 62) fg_Model_16 (show xYf 59 = some sModel from rfl) rfl d_Model_takes_45 ?_
  refine X_bipush (v := 6) d_Model_takes_48 rfl ?_
  refine X_iload_n d_Model_takes_50 rfl rfl ?_
  refine X_imul d_Model_takes_51 ?_
  refine X_iconst (v := 5) d_Model_takes_52 rfl ?_
  refine X_iadd d_Model_takes_53 ?_
  refine X_aldI (v := I 62 (6 * i + 5)) (show xYf 62 = some (sInts 30) from rfl) (ixin (ixA (ixM (show (6 : Int32) = nI 6 from rfl) (show nI i = nI i from rfl)) (show (5 : Int32) = nI 5 from rfl)) (show 6 * i + 5 < 30 by omega) (by decide)) ((ixv (ixA (ixM (show (6 : Int32) = nI 6 from rfl) (show nI i = nI i from rfl)) (show (5 : Int32) = nI 5 from rfl)) (show 6 * i + 5 < 2 ^ 31 by omega) (congrFun (xup_n _ _ (by decide)) _))) d_Model_takes_54 ?_
  refine X_iconst (v := 1) d_Model_takes_55 rfl ?_
  refine X_icmp_ne (tgt := 63) d_Model_takes_56 (by decide) (fun c_1 => ?_) (fun c_1 => ?_)
  ·
    refine X_iconst (v := 0) d_Model_takes_63 rfl ?_
    refine X_putZ fp_Model_174 (show xYf 59 = some sModel from rfl) rfl (by decide) d_Model_takes_64 ?_
    rw [xw_rec]
    rw [scs_32]
    exact X_vret rfl rfl (xle_of (congrArg (fun z => xm G xYf (xup I 59 z)) (scEq _ rfl rfl rfl (show _ = I 62 (6 * i + 5) from (hdn.resolve_right c_1).symm) rfl))) d_Model_takes_67
  ·
    refine X_iconst (v := 1) d_Model_takes_59 rfl ?_
    refine X_goto (tgt := 64) d_Model_takes_60 (by decide) ?_
    refine X_putZ fp_Model_174 (show xYf 59 = some sModel from rfl) rfl (by decide) d_Model_takes_64 ?_
    rw [xw_rec]
    rw [scs_32]
    exact X_vret rfl rfl (xle_of (congrArg (fun z => xm G xYf (xup I 59 z)) (scEq _ rfl rfl rfl (show _ = I 62 (6 * i + 5) from (c_1).symm) rfl))) d_Model_takes_67
