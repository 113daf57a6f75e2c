theorem mNm (f nm : Nat → Int32) (speed eyes : Int32) : ∀ e, e < 6 → (xup (xup (xup (xup (xup (xup nm 0 speed) 1 (f 3)) 2 (f 4)) 3 (f 1)) 4 (f 2)) 5 eyes) e = xname (nI e) f speed eyes := by
  intro e he
  match e, he with
  | 0, _ => rfl
  | 1, _ => rfl
  | 2, _ => rfl
  | 3, _ => rfl
  | 4, _ => rfl
  | 5, _ => rfl
theorem xle_mod {G : xG} {I : xI} (nm g : Nat → Int32) : xle (xm G (xup (xup xYf 73 (some (sInts 200))) 74 (some (sInts 6))) (xup (xup I 74 nm) 73 g)) (xm G xYf I) := by
  refine xle_fg fun k => ?_
  by_cases h73 : k = 73
  · subst h73; exact Or.inr (Or.inl ⟨200, rfl, by decide, rfl⟩)
  · by_cases h74 : k = 74
    · subst h74; exact Or.inr (Or.inl ⟨6, rfl, by decide, rfl⟩)
    · exact Or.inl ⟨by rw [xup_n _ _ h74, xup_n _ _ h73], by rw [xup_n _ _ h73, xup_n _ _ h74]⟩
/-- one's numbers as the model holds them: the kind, more, the sense, the cake, the used, the along, the aside, down -/
def mRec (I : xI) (i : Nat) (f : Nat → Int32) : Prop := f 0 = I 60 i ∧ f 1 = I 61 i ∧ f 3 = I 62 (6 * i + 1) ∧ f 4 = I 62 (6 * i + 2)
theorem c_Model_asksOf (l : Launch) (G : xG) {d : Nat} (nn : Nat) (hd : 3 ≤ d) (I : xI) (p ln i : Nat) (hp : p < 3) (hl : ln < 6) (hi : i < 5) (S : xSay) (hT : mTx I ln S) (hrule : I 59 9 = nI ln) (f : Nat → Int32) (hf : mRec I i f) (h2 : I 59 29 = f 2) (speed eyes : Int32) : XM l G d y_Model_asksOf b_Model_asksOf 5 (some .int) 0 0 xK0 [.ref (xg G 59), .int (nI p), .int (nI i), .int speed, .int eyes] nn (xm G xYf I) (some (.int (S (nI p) speed eyes f))) nn (xm G xYf I) := by
  obtain ⟨h0, h1, h3, h4⟩ := hf
  refine XM.of (by decide) (Nat.le_of_ble_eq_true rfl) (L := [(0, .ref (xg G 59)), (1, .int (nI p)), (2, .int (nI i)), (3, .int speed), (4, .int eyes)]) rfl ?_
  refine X_knowI (a := 73) (by decide) rfl (fun g => ?_)
  refine X_knowI (a := 74) (by decide) rfl (fun nm => ?_)
  refine X_aload_n d_Model_asksOf_0 rfl rfl ?_
  refine X_getR (r := 74) fg_Model_52 (show (xup (xup xYf 73 (some (sInts 200))) 74 (some (sInts 6))) 59 = some sModel from rfl) rfl d_Model_asksOf_1 ?_
  refine X_iconst (v := 0) d_Model_asksOf_4 rfl ?_
  refine X_iload_n d_Model_asksOf_5 rfl rfl ?_
  refine X_astI (show (xup (xup xYf 73 (some (sInts 200))) 74 (some (sInts 6))) 74 = some (sInts 6) from rfl) (ixin (show (0 : Int32) = nI 0 from rfl) (show 0 < 6 by omega) (by decide)) d_Model_asksOf_6 ?_
  rw [xw_rec]
  refine X_aload_n d_Model_asksOf_7 rfl rfl ?_
  refine X_getR (r := 74) fg_Model_52 (show (xup (xup xYf 73 (some (sInts 200))) 74 (some (sInts 6))) 59 = some sModel from rfl) rfl d_Model_asksOf_8 ?_
  refine X_iconst (v := 1) d_Model_asksOf_11 rfl ?_
  refine X_aload_n d_Model_asksOf_12 rfl rfl ?_
  refine X_getR (r := 62) fg_Model_16 (show (xup (xup xYf 73 (some (sInts 200))) 74 (some (sInts 6))) 59 = some sModel from rfl) rfl d_Model_asksOf_13 ?_
  refine X_bipush (v := 6) d_Model_asksOf_16 rfl ?_
  refine X_iload_n d_Model_asksOf_18 rfl rfl ?_
  refine X_imul d_Model_asksOf_19 ?_
  refine X_iconst (v := 1) d_Model_asksOf_20 rfl ?_
  refine X_iadd d_Model_asksOf_21 ?_
  refine X_aldI (v := f 3) (show (xup (xup xYf 73 (some (sInts 200))) 74 (some (sInts 6))) 62 = some (sInts 30) from rfl) (ixin (ixA (ixM (show (6 : Int32) = nI 6 from rfl) (show nI i = nI i from rfl)) (show (1 : Int32) = nI 1 from rfl)) (show 6 * i + 1 < 30 by omega) (by decide)) ((ixv (ixA (ixM (show (6 : Int32) = nI 6 from rfl) (show nI i = nI i from rfl)) (show (1 : Int32) = nI 1 from rfl)) (show 6 * i + 1 < 2 ^ 31 by omega) ((congrFun (xup_n _ _ (by decide)) _).trans ((congrFun (xup_n _ _ (by decide)) _).trans (h3.symm))))) d_Model_asksOf_22 ?_
  refine X_astI (show (xup (xup xYf 73 (some (sInts 200))) 74 (some (sInts 6))) 74 = some (sInts 6) from rfl) (ixin (show (1 : Int32) = nI 1 from rfl) (show 1 < 6 by omega) (by decide)) d_Model_asksOf_23 ?_
  rw [xw_rec]
  refine X_aload_n d_Model_asksOf_24 rfl rfl ?_
  refine X_getR (r := 74) fg_Model_52 (show (xup (xup xYf 73 (some (sInts 200))) 74 (some (sInts 6))) 59 = some sModel from rfl) rfl d_Model_asksOf_25 ?_
  refine X_iconst (v := 2) d_Model_asksOf_28 rfl ?_
  refine X_aload_n d_Model_asksOf_29 rfl rfl ?_
  refine X_getR (r := 62) fg_Model_16 (show (xup (xup xYf 73 (some (sInts 200))) 74 (some (sInts 6))) 59 = some sModel from rfl) rfl d_Model_asksOf_30 ?_
  refine X_bipush (v := 6) d_Model_asksOf_33 rfl ?_
  refine X_iload_n d_Model_asksOf_35 rfl rfl ?_
  refine X_imul d_Model_asksOf_36 ?_
  refine X_iconst (v := 2) d_Model_asksOf_37 rfl ?_
  refine X_iadd d_Model_asksOf_38 ?_
  refine X_aldI (v := f 4) (show (xup (xup xYf 73 (some (sInts 200))) 74 (some (sInts 6))) 62 = some (sInts 30) from rfl) (ixin (ixA (ixM (show (6 : Int32) = nI 6 from rfl) (show nI i = nI i from rfl)) (show (2 : Int32) = nI 2 from rfl)) (show 6 * i + 2 < 30 by omega) (by decide)) ((ixv (ixA (ixM (show (6 : Int32) = nI 6 from rfl) (show nI i = nI i from rfl)) (show (2 : Int32) = nI 2 from rfl)) (show 6 * i + 2 < 2 ^ 31 by omega) ((congrFun (xup_n _ _ (by decide)) _).trans ((congrFun (xup_n _ _ (by decide)) _).trans (h4.symm))))) d_Model_asksOf_39 ?_
  refine X_astI (show (xup (xup xYf 73 (some (sInts 200))) 74 (some (sInts 6))) 74 = some (sInts 6) from rfl) (ixin (show (2 : Int32) = nI 2 from rfl) (show 2 < 6 by omega) (by decide)) d_Model_asksOf_40 ?_
  rw [xw_rec]
  refine X_aload_n d_Model_asksOf_41 rfl rfl ?_
  refine X_getR (r := 74) fg_Model_52 (show (xup (xup xYf 73 (some (sInts 200))) 74 (some (sInts 6))) 59 = some sModel from rfl) rfl d_Model_asksOf_42 ?_
  refine X_iconst (v := 3) d_Model_asksOf_45 rfl ?_
  refine X_aload_n d_Model_asksOf_46 rfl rfl ?_
  refine X_getR (r := 61) fg_Model_13 (show (xup (xup xYf 73 (some (sInts 200))) 74 (some (sInts 6))) 59 = some sModel from rfl) rfl d_Model_asksOf_47 ?_
  refine X_iload_n d_Model_asksOf_50 rfl rfl ?_
  refine X_aldI (v := f 1) (show (xup (xup xYf 73 (some (sInts 200))) 74 (some (sInts 6))) 61 = some (sInts 5) from rfl) (ixin (show nI i = nI i from rfl) (show i < 5 by omega) (by decide)) ((ixv (show nI i = nI i from rfl) (show i < 2 ^ 31 by omega) ((congrFun (xup_n _ _ (by decide)) _).trans ((congrFun (xup_n _ _ (by decide)) _).trans (h1.symm))))) d_Model_asksOf_51 ?_
  refine X_astI (show (xup (xup xYf 73 (some (sInts 200))) 74 (some (sInts 6))) 74 = some (sInts 6) from rfl) (ixin (show (3 : Int32) = nI 3 from rfl) (show 3 < 6 by omega) (by decide)) d_Model_asksOf_52 ?_
  rw [xw_rec]
  refine X_aload_n d_Model_asksOf_53 rfl rfl ?_
  refine X_getR (r := 74) fg_Model_52 (show (xup (xup xYf 73 (some (sInts 200))) 74 (some (sInts 6))) 59 = some sModel from rfl) rfl d_Model_asksOf_54 ?_
  refine X_iconst (v := 4) d_Model_asksOf_57 rfl ?_
  refine X_aload_n d_Model_asksOf_58 rfl rfl ?_
  refine X_getI (v := f 2) fg_Model_140 (show (xup (xup xYf 73 (some (sInts 200))) 74 (some (sInts 6))) 59 = some sModel from rfl) rfl ((congrFun (xup_n _ _ (by decide)) _).trans ((congrFun (xup_n _ _ (by decide)) _).trans (h2))) d_Model_asksOf_59 ?_
  refine X_astI (show (xup (xup xYf 73 (some (sInts 200))) 74 (some (sInts 6))) 74 = some (sInts 6) from rfl) (ixin (show (4 : Int32) = nI 4 from rfl) (show 4 < 6 by omega) (by decide)) d_Model_asksOf_62 ?_
  rw [xw_rec]
  refine X_aload_n d_Model_asksOf_63 rfl rfl ?_
  refine X_getR (r := 74) fg_Model_52 (show (xup (xup xYf 73 (some (sInts 200))) 74 (some (sInts 6))) 59 = some sModel from rfl) rfl d_Model_asksOf_64 ?_
  refine X_iconst (v := 5) d_Model_asksOf_67 rfl ?_
  refine X_iload d_Model_asksOf_68 rfl ?_
  refine X_astI (show (xup (xup xYf 73 (some (sInts 200))) 74 (some (sInts 6))) 74 = some (sInts 6) from rfl) (ixin (show (5 : Int32) = nI 5 from rfl) (show 5 < 6 by omega) (by decide)) d_Model_asksOf_70 ?_
  rw [xw_rec]
  refine X_aload_n d_Model_asksOf_71 rfl rfl ?_
  refine X_iload_n d_Model_asksOf_72 rfl rfl ?_
  rw [xup_comm I _ _ (show (73 : Nat) ≠ 74 by decide)]
  obtain ⟨r, hr, hM⟩ := c_Model_says l G (d := d - 1) nn (by omega) (xup I 74 (xup (xup (xup (xup (xup (xup nm 0 speed) 1 (f 3)) 2 (f 4)) 3 (f 1)) 4 (f 2)) 5 eyes)) g p ln hp hl S (mTx_kept hT (xup_n _ _ (by decide)) (xup_n _ _ (by decide))) ((congrFun (xup_n _ _ (by decide)) _).trans hrule) f speed eyes (fun e he => (congrFun (xup_s _ _ _) _).trans (mNm f nm speed eyes e he)) xYf I (fun g => xle_mod _ g)
  refine X_callV (v := .int r) (rest := []) hM lk_Model_says ml_Model_143 (xm_obj (show (xup (xup xYf 73 (some (sInts 200))) 74 (some (sInts 6))) 59 = some sModel from rfl)) rfl rfl (Nat.le_of_ble_eq_true rfl) (xRok (d' := d - 1) (by omega) (by decide)) ⟨Nat.le_refl _, Nat.le_refl _⟩ d_Model_asksOf_73 rfl ?_
  refine X_iconst (v := 0) d_Model_asksOf_76 rfl ?_
  refine X_iload_n d_Model_asksOf_77 rfl rfl ?_
  refine X_iconst (v := 1) d_Model_asksOf_78 rfl ?_
  refine X_icmp_ne (tgt := 87) d_Model_asksOf_79 (by decide) (fun c_1 => ?_) (fun c_1 => ?_)
  ·
    refine X_sipush (v := 999) d_Model_asksOf_87 rfl ?_
    refine X_callS (v := .int (xbd r 0 999)) (rest := []) (c_Model_within l G nn _ (by omega) r 0 999) lk_Model_within ml_Model_146 rfl (Nat.le_of_ble_eq_true rfl) (xRok (d' := d - 1) (by omega) (by decide)) ⟨Nat.le_refl _, Nat.le_refl _⟩ d_Model_asksOf_90 rfl ?_
    exact X_iret rfl (congrArg (fun q => some (Value.int q)) (by rw [hr]; first | rw [if_pos c_1] | rw [if_neg c_1])) (xle_rf _) d_Model_asksOf_93
  ·
    refine X_bipush (v := 100) d_Model_asksOf_82 rfl ?_
    refine X_goto (tgt := 90) d_Model_asksOf_84 (by decide) ?_
    refine X_callS (v := .int (xbd r 0 100)) (rest := []) (c_Model_within l G nn _ (by omega) r 0 100) lk_Model_within ml_Model_146 rfl (Nat.le_of_ble_eq_true rfl) (xRok (d' := d - 1) (by omega) (by decide)) ⟨Nat.le_refl _, Nat.le_refl _⟩ d_Model_asksOf_90 rfl ?_
    exact X_iret rfl (congrArg (fun q => some (Value.int q)) (by rw [hr]; first | rw [if_pos c_1] | rw [if_neg c_1])) (xle_rf _) d_Model_asksOf_93
