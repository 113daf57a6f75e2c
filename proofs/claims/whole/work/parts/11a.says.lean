theorem c_Text_partEnd (l : Launch) (G : xG) {d : Nat} (nn : Nat) (Y : xY) (I : xI) (hd : 1 ≤ d) (t : Nat) (ht : Y t = some (sText t)) (ht2 : Y (t + 2) = some (sInts 3)) (p : Int32) : XM l G d y_Text_partEnd b_Text_partEnd 2 (some .int) 0 0 xK0 [.ref (xg G t), .int p] nn (xm G Y I) (some (.int (xpe I t p))) nn (xm G Y (I)) := by
  refine XM.of (by decide) (Nat.le_of_ble_eq_true rfl) (L := [(0, .ref (xg G t)), (1, .int p)]) rfl ?_
  refine X_iload_n d_Text_partEnd_0 rfl rfl ?_
  refine X_if_lt (tgt := 30) d_Text_partEnd_1 (by decide) (fun c_1 => ?_) (fun c_1 => ?_)
  ·
    refine X_iconst (v := 0) d_Text_partEnd_30 rfl ?_
    exact X_iret rfl (congrArg (fun q => some (Value.int q)) (by simp [xpe, c_1, Int32.not_le.mpr c_1])) (xle_rf _) d_Text_partEnd_31
  ·
    refine X_iload_n d_Text_partEnd_4 rfl rfl ?_
    refine X_aload_n d_Text_partEnd_5 rfl rfl ?_
    refine X_getI (v := I t 4) fg_Text_25 ht rfl (rfl) d_Text_partEnd_6 ?_
    refine X_icmp_ge (tgt := 30) d_Text_partEnd_9 (by decide) (fun c_2 => ?_) (fun c_2 => ?_)
    ·
      refine X_iconst (v := 0) d_Text_partEnd_30 rfl ?_
      exact X_iret rfl (congrArg (fun q => some (Value.int q)) (by simp [xpe, c_1, Int32.not_lt.mp c_1, c_2, Int32.not_lt.mpr c_2])) (xle_rf _) d_Text_partEnd_31
    ·
      refine X_iload_n d_Text_partEnd_12 rfl rfl ?_
      refine X_aload_n d_Text_partEnd_13 rfl rfl ?_
      refine X_getR (r := t + 2) fg_Text_15 ht rfl d_Text_partEnd_14 ?_
      refine X_alenI (v := 3) ht2 rfl d_Text_partEnd_17 ?_
      refine X_icmp_ge (tgt := 30) d_Text_partEnd_18 (by decide) (fun c_3 => ?_) (fun c_3 => ?_)
      ·
        refine X_iconst (v := 0) d_Text_partEnd_30 rfl ?_
        exact X_iret rfl (congrArg (fun q => some (Value.int q)) (by simp [xpe, c_1, Int32.not_lt.mp c_1, c_2, Int32.not_le.mp c_2, c_3, Int32.not_lt.mpr c_3])) (xle_rf _) d_Text_partEnd_31
      ·
        refine X_aload_n d_Text_partEnd_21 rfl rfl ?_
        refine X_getR (r := t + 2) fg_Text_15 ht rfl d_Text_partEnd_22 ?_
        refine X_iload_n d_Text_partEnd_25 rfl rfl ?_
        refine X_aldI (v := I (t + 2) p.toNatClampNeg) ht2 (xvp (B := 3) (by grind) (by grind) (by decide)) (rfl) d_Text_partEnd_26 ?_
        refine X_goto (tgt := 31) d_Text_partEnd_27 (by decide) ?_
        exact X_iret rfl (congrArg (fun q => some (Value.int q)) (by simp [xpe, c_1, Int32.not_lt.mp c_1, c_2, Int32.not_le.mp c_2, c_3, Int32.not_le.mp c_3])) (xle_rf _) d_Text_partEnd_31
theorem c_Text_named (l : Launch) (G : xG) {d : Nat} (nn : Nat) (Y : xY) (I : xI) (hd : 1 ≤ d) (h : Nat) (hh : Y h = some sHead) (nm speed eyes : Int32) : XM l G d y_Text_named b_Text_named 4 (some .int) 0 0 xK0 [.int nm, .ref (xg G h), .int speed, .int eyes] nn (xm G Y I) (some (.int (xnamC nm (I h) speed eyes))) nn (xm G Y (I)) := by
  refine XM.of (by decide) (Nat.le_of_ble_eq_true rfl) (L := [(0, .int nm), (1, .ref (xg G h)), (2, .int speed), (3, .int eyes)]) rfl ?_
  refine X_iload_n d_Text_named_0 rfl rfl ?_
  by_cases c_1 : nm = 10000
  ·
    refine X_tableIn (tgt := 36) d_Text_named_1 (by rw [c_1]; decide) (by rw [c_1]; decide) (by rw [c_1]; rfl) (by decide) ?_
    refine X_iload_n d_Text_named_36 rfl rfl ?_
    exact X_iret rfl (congrArg (fun q => some (Value.int q)) (by simp [xnamC, c_1])) (xle_rf _) d_Text_named_37
  by_cases c_2 : nm = 10001
  ·
    refine X_tableIn (tgt := 38) d_Text_named_1 (by rw [c_2]; decide) (by rw [c_2]; decide) (by rw [c_2]; rfl) (by decide) ?_
    refine X_aload_n d_Text_named_38 rfl rfl ?_
    refine X_getI (v := I h 3) fg_Text_52 hh rfl (rfl) d_Text_named_39 ?_
    exact X_iret rfl (congrArg (fun q => some (Value.int q)) (by simp [xnamC, c_1, c_2])) (xle_rf _) d_Text_named_42
  by_cases c_3 : nm = 10002
  ·
    refine X_tableIn (tgt := 43) d_Text_named_1 (by rw [c_3]; decide) (by rw [c_3]; decide) (by rw [c_3]; rfl) (by decide) ?_
    refine X_aload_n d_Text_named_43 rfl rfl ?_
    refine X_getI (v := I h 4) fg_Text_57 hh rfl (rfl) d_Text_named_44 ?_
    exact X_iret rfl (congrArg (fun q => some (Value.int q)) (by simp [xnamC, c_1, c_2, c_3])) (xle_rf _) d_Text_named_47
  by_cases c_4 : nm = 10003
  ·
    refine X_tableIn (tgt := 48) d_Text_named_1 (by rw [c_4]; decide) (by rw [c_4]; decide) (by rw [c_4]; rfl) (by decide) ?_
    refine X_aload_n d_Text_named_48 rfl rfl ?_
    refine X_getI (v := I h 1) fg_Text_60 hh rfl (rfl) d_Text_named_49 ?_
    exact X_iret rfl (congrArg (fun q => some (Value.int q)) (by simp [xnamC, c_1, c_2, c_3, c_4])) (xle_rf _) d_Text_named_52
  by_cases c_5 : nm = 10004
  ·
    refine X_tableIn (tgt := 53) d_Text_named_1 (by rw [c_5]; decide) (by rw [c_5]; decide) (by rw [c_5]; rfl) (by decide) ?_
    refine X_aload_n d_Text_named_53 rfl rfl ?_
    refine X_getI (v := I h 2) fg_Text_63 hh rfl (rfl) d_Text_named_54 ?_
    exact X_iret rfl (congrArg (fun q => some (Value.int q)) (by simp [xnamC, c_1, c_2, c_3, c_4, c_5])) (xle_rf _) d_Text_named_57
  refine X_tableOut (tgt := 58) d_Text_named_1 (xtout nm (10000) (10004) (by decide) (by intro q h1 h2; have hq : q = 10000 ∨ q = 10001 ∨ q = 10002 ∨ q = 10003 ∨ q = 10004 := (by omega); rcases hq with rfl | rfl | rfl | rfl | rfl <;> first | exact c_1 | exact c_2 | exact c_3 | exact c_4 | exact c_5)) (by decide) ?_
  refine X_iload_n d_Text_named_58 rfl rfl ?_
  exact X_iret rfl (congrArg (fun q => some (Value.int q)) (by simp [xnamC, c_1, c_2, c_3, c_4, c_5])) (xle_rf _) d_Text_named_59
theorem c_Text_joined (l : Launch) (G : xG) {d : Nat} (nn : Nat) (Y : xY) (I : xI) (hd : 1 ≤ d) (op a b : Int32) : XM l G d y_Text_joined b_Text_joined 3 (some .int) 0 0 xK0 [.int op, .int a, .int b] nn (xm G Y I) (some (.int (xjoin op a b))) nn (xm G Y (I)) := by
  refine XM.of (by decide) (Nat.le_of_ble_eq_true rfl) (L := [(0, .int op), (1, .int a), (2, .int b)]) rfl ?_
  refine X_iload_n d_Text_joined_0 rfl rfl ?_
  by_cases c_1 : op = 20000
  ·
    refine X_tableIn (tgt := 40) d_Text_joined_1 (by rw [c_1]; decide) (by rw [c_1]; decide) (by rw [c_1]; rfl) (by decide) ?_
    refine X_iload_n d_Text_joined_40 rfl rfl ?_
    refine X_if_ne (tgt := 48) d_Text_joined_41 (by decide) (fun c_2 => ?_) (fun c_2 => ?_)
    ·
      refine X_iconst (v := 1) d_Text_joined_48 rfl ?_
      refine X_goto (tgt := 53) d_Text_joined_49 (by decide) ?_
      exact X_iret rfl (congrArg (fun q => some (Value.int q)) (by simp [xjoin, xb, c_1, c_2])) (xle_rf _) d_Text_joined_53
    ·
      refine X_iload_n d_Text_joined_44 rfl rfl ?_
      refine X_if_eq (tgt := 52) d_Text_joined_45 (by decide) (fun c_3 => ?_) (fun c_3 => ?_)
      ·
        refine X_iconst (v := 0) d_Text_joined_52 rfl ?_
        exact X_iret rfl (congrArg (fun q => some (Value.int q)) (by simp [xjoin, xb, c_1, c_2, c_3])) (xle_rf _) d_Text_joined_53
      ·
        refine X_iconst (v := 1) d_Text_joined_48 rfl ?_
        refine X_goto (tgt := 53) d_Text_joined_49 (by decide) ?_
        exact X_iret rfl (congrArg (fun q => some (Value.int q)) (by simp [xjoin, xb, c_1, c_2, c_3])) (xle_rf _) d_Text_joined_53
  by_cases c_4 : op = 20001
  ·
    refine X_tableIn (tgt := 54) d_Text_joined_1 (by rw [c_4]; decide) (by rw [c_4]; decide) (by rw [c_4]; rfl) (by decide) ?_
    refine X_iload_n d_Text_joined_54 rfl rfl ?_
    refine X_if_eq (tgt := 66) d_Text_joined_55 (by decide) (fun c_5 => ?_) (fun c_5 => ?_)
    ·
      refine X_iconst (v := 0) d_Text_joined_66 rfl ?_
      exact X_iret rfl (congrArg (fun q => some (Value.int q)) (by simp [xjoin, xb, c_1, c_4, c_5])) (xle_rf _) d_Text_joined_67
    ·
      refine X_iload_n d_Text_joined_58 rfl rfl ?_
      refine X_if_eq (tgt := 66) d_Text_joined_59 (by decide) (fun c_6 => ?_) (fun c_6 => ?_)
      ·
        refine X_iconst (v := 0) d_Text_joined_66 rfl ?_
        exact X_iret rfl (congrArg (fun q => some (Value.int q)) (by simp [xjoin, xb, c_1, c_4, c_5, c_6])) (xle_rf _) d_Text_joined_67
      ·
        refine X_iconst (v := 1) d_Text_joined_62 rfl ?_
        refine X_goto (tgt := 67) d_Text_joined_63 (by decide) ?_
        exact X_iret rfl (congrArg (fun q => some (Value.int q)) (by simp [xjoin, xb, c_1, c_4, c_5, c_6])) (xle_rf _) d_Text_joined_67
  by_cases c_7 : op = 20002
  ·
    refine X_tableIn (tgt := 68) d_Text_joined_1 (by rw [c_7]; decide) (by rw [c_7]; decide) (by rw [c_7]; rfl) (by decide) ?_
    refine X_iload_n d_Text_joined_68 rfl rfl ?_
    refine X_iload_n d_Text_joined_69 rfl rfl ?_
    refine X_icmp_ge (tgt := 77) d_Text_joined_70 (by decide) (fun c_8 => ?_) (fun c_8 => ?_)
    ·
      refine X_iconst (v := 0) d_Text_joined_77 rfl ?_
      exact X_iret rfl (congrArg (fun q => some (Value.int q)) (by simp [xjoin, xb, c_1, c_4, c_7, c_8, Int32.not_lt.mpr c_8])) (xle_rf _) d_Text_joined_78
    ·
      refine X_iconst (v := 1) d_Text_joined_73 rfl ?_
      refine X_goto (tgt := 78) d_Text_joined_74 (by decide) ?_
      exact X_iret rfl (congrArg (fun q => some (Value.int q)) (by simp [xjoin, xb, c_1, c_4, c_7, c_8, Int32.not_le.mp c_8])) (xle_rf _) d_Text_joined_78
  by_cases c_9 : op = 20003
  ·
    refine X_tableIn (tgt := 79) d_Text_joined_1 (by rw [c_9]; decide) (by rw [c_9]; decide) (by rw [c_9]; rfl) (by decide) ?_
    refine X_iload_n d_Text_joined_79 rfl rfl ?_
    refine X_iload_n d_Text_joined_80 rfl rfl ?_
    refine X_icmp_ne (tgt := 88) d_Text_joined_81 (by decide) (fun c_10 => ?_) (fun c_10 => ?_)
    ·
      refine X_iconst (v := 0) d_Text_joined_88 rfl ?_
      exact X_iret rfl (congrArg (fun q => some (Value.int q)) (by simp [xjoin, xb, c_1, c_4, c_7, c_9, c_10])) (xle_rf _) d_Text_joined_89
    ·
      refine X_iconst (v := 1) d_Text_joined_84 rfl ?_
      refine X_goto (tgt := 89) d_Text_joined_85 (by decide) ?_
      exact X_iret rfl (congrArg (fun q => some (Value.int q)) (by simp [xjoin, xb, c_1, c_4, c_7, c_9, c_10])) (xle_rf _) d_Text_joined_89
  by_cases c_11 : op = 20004
  ·
    refine X_tableIn (tgt := 90) d_Text_joined_1 (by rw [c_11]; decide) (by rw [c_11]; decide) (by rw [c_11]; rfl) (by decide) ?_
    refine X_iload_n d_Text_joined_90 rfl rfl ?_
    refine X_iload_n d_Text_joined_91 rfl rfl ?_
    refine X_iadd d_Text_joined_92 ?_
    exact X_iret rfl (congrArg (fun q => some (Value.int q)) (by simp [xjoin, xb, c_1, c_4, c_7, c_9, c_11])) (xle_rf _) d_Text_joined_93
  by_cases c_12 : op = 20005
  ·
    refine X_tableIn (tgt := 94) d_Text_joined_1 (by rw [c_12]; decide) (by rw [c_12]; decide) (by rw [c_12]; rfl) (by decide) ?_
    refine X_iload_n d_Text_joined_94 rfl rfl ?_
    refine X_iload_n d_Text_joined_95 rfl rfl ?_
    refine X_isub d_Text_joined_96 ?_
    exact X_iret rfl (congrArg (fun q => some (Value.int q)) (by simp [xjoin, xb, c_1, c_4, c_7, c_9, c_11, c_12])) (xle_rf _) d_Text_joined_97
  refine X_tableOut (tgt := 98) d_Text_joined_1 (xtout op (20000) (20005) (by decide) (by intro q h1 h2; have hq : q = 20000 ∨ q = 20001 ∨ q = 20002 ∨ q = 20003 ∨ q = 20004 ∨ q = 20005 := (by omega); rcases hq with rfl | rfl | rfl | rfl | rfl | rfl <;> first | exact c_1 | exact c_4 | exact c_7 | exact c_9 | exact c_11 | exact c_12)) (by decide) ?_
  refine X_iload_n d_Text_joined_98 rfl rfl ?_
  refine X_iload_n d_Text_joined_99 rfl rfl ?_
  refine X_imul d_Text_joined_100 ?_
  exact X_iret rfl (congrArg (fun q => some (Value.int q)) (by simp [xjoin, xb, c_1, c_4, c_7, c_9, c_11, c_12])) (xle_rf _) d_Text_joined_101
def Q_Text_says (l : Launch) (G : xG) (d nn : Nat) (Y : xY) (I : xI) (t h : Nat) (part speed eyes : Int32) (b : Nat) (r : Int32) (Y' : xY) (I' : xI) (g : Nat → Int32) (n i : Nat) : Prop := XW l G (xR d 0 0) y_Text_says b_Text_says 10 (some .int) xK0 (xZ G nn (xm G Y' I') (some (.int r)) 0 0) nn (xm G Y (xup I (t + 3) g)) 0 0 31 [(0, .ref (xg G t)), (1, .int part), (2, .ref (xg G h)), (3, .int speed), (4, .int eyes), (5, .int (nI b)), (6, .int (nI n)), (7, .int (nI i))] []
theorem w_Text_says_num (l : Launch) (G : xG) {d : Nat} (nn : Nat) (Y : xY) (I : xI) (hd : 4 ≤ d) (t h : Nat) (ht : Y t = some (sText t)) (h1 : Y (t + 1) = some (sInts 160)) (h3 : Y (t + 3) = some (sInts 40)) (hh : Y h = some sHead) (hne : h ≠ t + 3) (part speed eyes : Int32) (b : Nat) (hb : b ≤ 160) (r : Int32) (Y' : xY) (I' : xI) (g : Nat → Int32) (i : Nat) (hi : i < b) (tc : Int32) (hc : I (t + 1) i = tc) (n : Nat) (hn : n < 40) (hx : ¬ 20000 ≤ tc) (hx2 : ¬ 10000 ≤ tc) (ih : Q_Text_says l G d nn Y I t h part speed eyes b r Y' I' (xup g n tc) (n + 1) (i + 1)) : Q_Text_says l G d nn Y I t h part speed eyes b r Y' I' g (n) i := by
  unfold Q_Text_says
  refine X_iload d_Text_says_31 rfl ?_
  refine X_iload d_Text_says_33 rfl ?_
  refine X_icmp_ge (tgt := 214) d_Text_says_35 (by decide) (fun c_1 => absurd c_1 (nI_ge hi (by omega))) (fun _ => ?_)
  refine X_aload_n d_Text_says_38 rfl rfl ?_
  refine X_getR (r := t + 1) fg_Text_9 ht rfl d_Text_says_39 ?_
  refine X_iload d_Text_says_42 rfl ?_
  refine X_aldI (v := tc) h1 (vp_in_nI (show i < 160 by omega) (by decide)) ((by rw [nI_cl (show i < 2 ^ 31 by omega)]; exact (congrFun (xup_n _ _ (by omega)) _).trans (hc))) d_Text_says_44 ?_
  refine X_istore d_Text_says_45 (by decide) [1, 2, 3, 4, 5, 6, 7, 8, 0] (L' := [(0, .ref (xg G t)), (1, .int part), (2, .ref (xg G h)), (3, .int speed), (4, .int eyes), (5, .int (nI b)), (6, .int (nI n)), (7, .int (nI i)), (8, .int tc)]) rfl ?_
  refine X_iload d_Text_says_47 rfl ?_
  refine X_sipush (v := 20000) d_Text_says_49 rfl ?_
  refine X_icmp_ge (tgt := 100) d_Text_says_52 (by decide) (fun c_2 => absurd c_2 hx) (fun _ => ?_)
  refine X_iload d_Text_says_55 rfl ?_
  refine X_aload_n d_Text_says_57 rfl rfl ?_
  refine X_getR (r := t + 3) fg_Text_18 ht rfl d_Text_says_58 ?_
  refine X_alenI (v := 40) h3 rfl d_Text_says_61 ?_
  refine X_icmp_ge (tgt := 100) d_Text_says_62 (by decide) (fun c_3 => absurd c_3 (show ¬ nI 40 ≤ nI n from nI_ge hn (by omega))) (fun _ => ?_)
  refine X_aload_n d_Text_says_65 rfl rfl ?_
  refine X_getR (r := t + 3) fg_Text_18 ht rfl d_Text_says_66 ?_
  refine X_iload d_Text_says_69 rfl ?_
  refine X_iload d_Text_says_71 rfl ?_
  refine X_sipush (v := 10000) d_Text_says_73 rfl ?_
  refine X_icmp_ge (tgt := 84) d_Text_says_76 (by decide) (fun c_4 => absurd c_4 hx2) (fun _ => ?_)
  refine X_iload d_Text_says_79 rfl ?_
  refine X_goto (tgt := 93) d_Text_says_81 (by decide) ?_
  refine X_astI h3 (vp_in_nI (show n < 40 by omega) (by decide)) d_Text_says_93 ?_
  rw [nI_cl (show n < 2 ^ 31 by omega)]
  refine X_iinc d_Text_says_94 rfl (v := (nI n) + 1) rfl (by decide) [1, 2, 3, 4, 5, 6, 0, 7, 8] (L' := [(0, .ref (xg G t)), (1, .int part), (2, .ref (xg G h)), (3, .int speed), (4, .int eyes), (5, .int (nI b)), (6, .int ((nI n) + 1)), (7, .int (nI i)), (8, .int tc)]) rfl ?_
  refine X_goto (tgt := 208) d_Text_says_97 (by decide) ?_
  refine X_iinc d_Text_says_208 rfl (v := (nI i) + 1) rfl (by decide) [1, 2, 3, 4, 5, 6, 7, 0, 8] (L' := [(0, .ref (xg G t)), (1, .int part), (2, .ref (xg G h)), (3, .int speed), (4, .int eyes), (5, .int (nI b)), (6, .int ((nI n) + 1)), (7, .int ((nI i) + 1)), (8, .int tc)]) rfl ?_
  refine X_goto (tgt := 31) d_Text_says_211 (by decide) ?_
  refine X_sub [0, 1, 2, 3, 4, 5, 6, 7] (L' := [(0, .ref (xg G t)), (1, .int part), (2, .ref (xg G h)), (3, .int speed), (4, .int eyes), (5, .int (nI b)), (6, .int ((nI n) + 1)), (7, .int ((nI i) + 1))]) rfl ?_
  simp only [nI_1, xw_rec, xup_n I g hne]
  exact ih
theorem w_Text_says_name (l : Launch) (G : xG) {d : Nat} (nn : Nat) (Y : xY) (I : xI) (hd : 4 ≤ d) (t h : Nat) (ht : Y t = some (sText t)) (h1 : Y (t + 1) = some (sInts 160)) (h3 : Y (t + 3) = some (sInts 40)) (hh : Y h = some sHead) (hne : h ≠ t + 3) (part speed eyes : Int32) (b : Nat) (hb : b ≤ 160) (r : Int32) (Y' : xY) (I' : xI) (g : Nat → Int32) (i : Nat) (hi : i < b) (tc : Int32) (hc : I (t + 1) i = tc) (n : Nat) (hn : n < 40) (hx : ¬ 20000 ≤ tc) (hx2 : 10000 ≤ tc) (ih : Q_Text_says l G d nn Y I t h part speed eyes b r Y' I' (xup g n (xnamC tc (I h) speed eyes)) (n + 1) (i + 1)) : Q_Text_says l G d nn Y I t h part speed eyes b r Y' I' g (n) i := by
  unfold Q_Text_says
  refine X_iload d_Text_says_31 rfl ?_
  refine X_iload d_Text_says_33 rfl ?_
  refine X_icmp_ge (tgt := 214) d_Text_says_35 (by decide) (fun c_1 => absurd c_1 (nI_ge hi (by omega))) (fun _ => ?_)
  refine X_aload_n d_Text_says_38 rfl rfl ?_
  refine X_getR (r := t + 1) fg_Text_9 ht rfl d_Text_says_39 ?_
  refine X_iload d_Text_says_42 rfl ?_
  refine X_aldI (v := tc) h1 (vp_in_nI (show i < 160 by omega) (by decide)) ((by rw [nI_cl (show i < 2 ^ 31 by omega)]; exact (congrFun (xup_n _ _ (by omega)) _).trans (hc))) d_Text_says_44 ?_
  refine X_istore d_Text_says_45 (by decide) [1, 2, 3, 4, 5, 6, 7, 8, 0] (L' := [(0, .ref (xg G t)), (1, .int part), (2, .ref (xg G h)), (3, .int speed), (4, .int eyes), (5, .int (nI b)), (6, .int (nI n)), (7, .int (nI i)), (8, .int tc)]) rfl ?_
  refine X_iload d_Text_says_47 rfl ?_
  refine X_sipush (v := 20000) d_Text_says_49 rfl ?_
  refine X_icmp_ge (tgt := 100) d_Text_says_52 (by decide) (fun c_2 => absurd c_2 hx) (fun _ => ?_)
  refine X_iload d_Text_says_55 rfl ?_
  refine X_aload_n d_Text_says_57 rfl rfl ?_
  refine X_getR (r := t + 3) fg_Text_18 ht rfl d_Text_says_58 ?_
  refine X_alenI (v := 40) h3 rfl d_Text_says_61 ?_
  refine X_icmp_ge (tgt := 100) d_Text_says_62 (by decide) (fun c_3 => absurd c_3 (show ¬ nI 40 ≤ nI n from nI_ge hn (by omega))) (fun _ => ?_)
  refine X_aload_n d_Text_says_65 rfl rfl ?_
  refine X_getR (r := t + 3) fg_Text_18 ht rfl d_Text_says_66 ?_
  refine X_iload d_Text_says_69 rfl ?_
  refine X_iload d_Text_says_71 rfl ?_
  refine X_sipush (v := 10000) d_Text_says_73 rfl ?_
  refine X_icmp_ge (tgt := 84) d_Text_says_76 (by decide) (fun _ => ?_) (fun c_4 => absurd c_4 (not_not_intro hx2))
  refine X_iload d_Text_says_84 rfl ?_
  refine X_aload_n d_Text_says_86 rfl rfl ?_
  refine X_iload_n d_Text_says_87 rfl rfl ?_
  refine X_iload d_Text_says_88 rfl ?_
  refine X_callS (v := .int (xnamC tc ((xup I (t + 3) g) h) speed eyes)) (rest := [.int (nI n), .ref (xg G (t + 3))]) (c_Text_named l G nn Y (xup I (t + 3) g) (by omega) h hh tc speed eyes) lk_Text_named ml_Text_41 rfl (Nat.le_of_ble_eq_true rfl) (xRok (d' := d - 1) (by omega) (by decide)) ⟨Nat.le_refl _, Nat.le_refl _⟩ d_Text_says_90 rfl ?_
  refine X_astI h3 (vp_in_nI (show n < 40 by omega) (by decide)) d_Text_says_93 ?_
  rw [nI_cl (show n < 2 ^ 31 by omega)]
  refine X_iinc d_Text_says_94 rfl (v := (nI n) + 1) rfl (by decide) [1, 2, 3, 4, 5, 6, 0, 7, 8] (L' := [(0, .ref (xg G t)), (1, .int part), (2, .ref (xg G h)), (3, .int speed), (4, .int eyes), (5, .int (nI b)), (6, .int ((nI n) + 1)), (7, .int (nI i)), (8, .int tc)]) rfl ?_
  refine X_goto (tgt := 208) d_Text_says_97 (by decide) ?_
  refine X_iinc d_Text_says_208 rfl (v := (nI i) + 1) rfl (by decide) [1, 2, 3, 4, 5, 6, 7, 0, 8] (L' := [(0, .ref (xg G t)), (1, .int part), (2, .ref (xg G h)), (3, .int speed), (4, .int eyes), (5, .int (nI b)), (6, .int ((nI n) + 1)), (7, .int ((nI i) + 1)), (8, .int tc)]) rfl ?_
  refine X_goto (tgt := 31) d_Text_says_211 (by decide) ?_
  refine X_sub [0, 1, 2, 3, 4, 5, 6, 7] (L' := [(0, .ref (xg G t)), (1, .int part), (2, .ref (xg G h)), (3, .int speed), (4, .int eyes), (5, .int (nI b)), (6, .int ((nI n) + 1)), (7, .int ((nI i) + 1))]) rfl ?_
  simp only [nI_1, xw_rec, xup_n I g hne]
  exact ih
theorem w_Text_says_neg (l : Launch) (G : xG) {d : Nat} (nn : Nat) (Y : xY) (I : xI) (hd : 4 ≤ d) (t h : Nat) (ht : Y t = some (sText t)) (h1 : Y (t + 1) = some (sInts 160)) (h3 : Y (t + 3) = some (sInts 40)) (hh : Y h = some sHead) (hne : h ≠ t + 3) (part speed eyes : Int32) (b : Nat) (hb : b ≤ 160) (r : Int32) (Y' : xY) (I' : xI) (g : Nat → Int32) (i : Nat) (hi : i < b) (tc : Int32) (hc : I (t + 1) i = tc) (m : Nat) (hm : m + 1 ≤ 40) (hx : 20000 ≤ tc) (hx2 : ¬ tc < 30000) (hx3 : tc = 30001) (ih : Q_Text_says l G d nn Y I t h part speed eyes b r Y' I' (xup g m (-g m)) (m + 1) (i + 1)) : Q_Text_says l G d nn Y I t h part speed eyes b r Y' I' g (m + 1) i := by
  unfold Q_Text_says
  refine X_iload d_Text_says_31 rfl ?_
  refine X_iload d_Text_says_33 rfl ?_
  refine X_icmp_ge (tgt := 214) d_Text_says_35 (by decide) (fun c_1 => absurd c_1 (nI_ge hi (by omega))) (fun _ => ?_)
  refine X_aload_n d_Text_says_38 rfl rfl ?_
  refine X_getR (r := t + 1) fg_Text_9 ht rfl d_Text_says_39 ?_
  refine X_iload d_Text_says_42 rfl ?_
  refine X_aldI (v := tc) h1 (vp_in_nI (show i < 160 by omega) (by decide)) ((by rw [nI_cl (show i < 2 ^ 31 by omega)]; exact (congrFun (xup_n _ _ (by omega)) _).trans (hc))) d_Text_says_44 ?_
  refine X_istore d_Text_says_45 (by decide) [1, 2, 3, 4, 5, 6, 7, 8, 0] (L' := [(0, .ref (xg G t)), (1, .int part), (2, .ref (xg G h)), (3, .int speed), (4, .int eyes), (5, .int (nI b)), (6, .int (nI (m + 1))), (7, .int (nI i)), (8, .int tc)]) rfl ?_
  refine X_iload d_Text_says_47 rfl ?_
  refine X_sipush (v := 20000) d_Text_says_49 rfl ?_
  refine X_icmp_ge (tgt := 100) d_Text_says_52 (by decide) (fun _ => ?_) (fun c_2 => absurd c_2 (not_not_intro hx))
  refine X_iload d_Text_says_100 rfl ?_
  refine X_sipush (v := 30000) d_Text_says_102 rfl ?_
  refine X_icmp_lt (tgt := 161) d_Text_says_105 (by decide) (fun c_3 => absurd c_3 hx2) (fun _ => ?_)
  refine X_iload d_Text_says_108 rfl ?_
  refine X_iconst (v := 1) d_Text_says_110 rfl ?_
  refine X_icmp_lt (tgt := 161) d_Text_says_111 (by decide) (fun c_4 => absurd c_4 (show ¬ nI (m + 1) < nI 1 from nI_nlt (by omega) (by omega))) (fun _ => ?_)
  refine X_aload_n d_Text_says_114 rfl rfl ?_
  refine X_getR (r := t + 3) fg_Text_18 ht rfl d_Text_says_115 ?_
  refine X_iload d_Text_says_118 rfl ?_
  refine X_iconst (v := 1) d_Text_says_120 rfl ?_
  refine X_isub d_Text_says_121 ?_
  refine X_aldI (v := g m) h3 (by rw [nI_pred]; exact vp_in_nI (show m < 40 by omega) (by decide)) ((by rw [nI_pred, nI_cl (show m < 2 ^ 31 by omega)]; exact congrFun (xup_s _ _ _) _)) d_Text_says_122 ?_
  refine X_istore d_Text_says_123 (by decide) [1, 2, 3, 4, 5, 6, 7, 8, 9, 0] (L' := [(0, .ref (xg G t)), (1, .int part), (2, .ref (xg G h)), (3, .int speed), (4, .int eyes), (5, .int (nI b)), (6, .int (nI (m + 1))), (7, .int (nI i)), (8, .int tc), (9, .int (g m))]) rfl ?_
  refine X_aload_n d_Text_says_125 rfl rfl ?_
  refine X_getR (r := t + 3) fg_Text_18 ht rfl d_Text_says_126 ?_
  refine X_iload d_Text_says_129 rfl ?_
  refine X_iconst (v := 1) d_Text_says_131 rfl ?_
  refine X_isub d_Text_says_132 ?_
  refine X_iload d_Text_says_133 rfl ?_
  refine X_sipush (v := 30001) d_Text_says_135 rfl ?_
  refine X_icmp_ne (tgt := 147) d_Text_says_138 (by decide) (fun c_5 => absurd c_5 (not_not_intro hx3)) (fun _ => ?_)
  refine X_iload d_Text_says_141 rfl ?_
  refine X_ineg d_Text_says_143 ?_
  refine X_goto (tgt := 157) d_Text_says_144 (by decide) ?_
  refine X_astI h3 (by rw [nI_pred]; exact vp_in_nI (show m < 40 by omega) (by decide)) d_Text_says_157 ?_
  rw [nI_pred, nI_cl (show m < 2 ^ 31 by omega)]
  refine X_goto (tgt := 208) d_Text_says_158 (by decide) ?_
  refine X_iinc d_Text_says_208 rfl (v := (nI i) + 1) rfl (by decide) [1, 2, 3, 4, 5, 6, 7, 0, 8, 9] (L' := [(0, .ref (xg G t)), (1, .int part), (2, .ref (xg G h)), (3, .int speed), (4, .int eyes), (5, .int (nI b)), (6, .int (nI (m + 1))), (7, .int ((nI i) + 1)), (8, .int tc), (9, .int (g m))]) rfl ?_
  refine X_goto (tgt := 31) d_Text_says_211 (by decide) ?_
  refine X_sub [0, 1, 2, 3, 4, 5, 6, 7] (L' := [(0, .ref (xg G t)), (1, .int part), (2, .ref (xg G h)), (3, .int speed), (4, .int eyes), (5, .int (nI b)), (6, .int (nI (m + 1))), (7, .int ((nI i) + 1))]) rfl ?_
  simp only [nI_1, xw_rec, xup_n I g hne]
  exact ih
theorem w_Text_says_not (l : Launch) (G : xG) {d : Nat} (nn : Nat) (Y : xY) (I : xI) (hd : 4 ≤ d) (t h : Nat) (ht : Y t = some (sText t)) (h1 : Y (t + 1) = some (sInts 160)) (h3 : Y (t + 3) = some (sInts 40)) (hh : Y h = some sHead) (hne : h ≠ t + 3) (part speed eyes : Int32) (b : Nat) (hb : b ≤ 160) (r : Int32) (Y' : xY) (I' : xI) (g : Nat → Int32) (i : Nat) (hi : i < b) (tc : Int32) (hc : I (t + 1) i = tc) (m : Nat) (hm : m + 1 ≤ 40) (hx : 20000 ≤ tc) (hx2 : ¬ tc < 30000) (hx3 : ¬ tc = 30001) (ih : Q_Text_says l G d nn Y I t h part speed eyes b r Y' I' (xup g m (xb (decide (g m = 0)))) (m + 1) (i + 1)) : Q_Text_says l G d nn Y I t h part speed eyes b r Y' I' g (m + 1) i := by
  unfold Q_Text_says
  refine X_iload d_Text_says_31 rfl ?_
  refine X_iload d_Text_says_33 rfl ?_
  refine X_icmp_ge (tgt := 214) d_Text_says_35 (by decide) (fun c_1 => absurd c_1 (nI_ge hi (by omega))) (fun _ => ?_)
  refine X_aload_n d_Text_says_38 rfl rfl ?_
  refine X_getR (r := t + 1) fg_Text_9 ht rfl d_Text_says_39 ?_
  refine X_iload d_Text_says_42 rfl ?_
  refine X_aldI (v := tc) h1 (vp_in_nI (show i < 160 by omega) (by decide)) ((by rw [nI_cl (show i < 2 ^ 31 by omega)]; exact (congrFun (xup_n _ _ (by omega)) _).trans (hc))) d_Text_says_44 ?_
  refine X_istore d_Text_says_45 (by decide) [1, 2, 3, 4, 5, 6, 7, 8, 0] (L' := [(0, .ref (xg G t)), (1, .int part), (2, .ref (xg G h)), (3, .int speed), (4, .int eyes), (5, .int (nI b)), (6, .int (nI (m + 1))), (7, .int (nI i)), (8, .int tc)]) rfl ?_
  refine X_iload d_Text_says_47 rfl ?_
  refine X_sipush (v := 20000) d_Text_says_49 rfl ?_
  refine X_icmp_ge (tgt := 100) d_Text_says_52 (by decide) (fun _ => ?_) (fun c_2 => absurd c_2 (not_not_intro hx))
  refine X_iload d_Text_says_100 rfl ?_
  refine X_sipush (v := 30000) d_Text_says_102 rfl ?_
  refine X_icmp_lt (tgt := 161) d_Text_says_105 (by decide) (fun c_3 => absurd c_3 hx2) (fun _ => ?_)
  refine X_iload d_Text_says_108 rfl ?_
  refine X_iconst (v := 1) d_Text_says_110 rfl ?_
  refine X_icmp_lt (tgt := 161) d_Text_says_111 (by decide) (fun c_4 => absurd c_4 (show ¬ nI (m + 1) < nI 1 from nI_nlt (by omega) (by omega))) (fun _ => ?_)
  refine X_aload_n d_Text_says_114 rfl rfl ?_
  refine X_getR (r := t + 3) fg_Text_18 ht rfl d_Text_says_115 ?_
  refine X_iload d_Text_says_118 rfl ?_
  refine X_iconst (v := 1) d_Text_says_120 rfl ?_
  refine X_isub d_Text_says_121 ?_
  refine X_aldI (v := g m) h3 (by rw [nI_pred]; exact vp_in_nI (show m < 40 by omega) (by decide)) ((by rw [nI_pred, nI_cl (show m < 2 ^ 31 by omega)]; exact congrFun (xup_s _ _ _) _)) d_Text_says_122 ?_
  refine X_istore d_Text_says_123 (by decide) [1, 2, 3, 4, 5, 6, 7, 8, 9, 0] (L' := [(0, .ref (xg G t)), (1, .int part), (2, .ref (xg G h)), (3, .int speed), (4, .int eyes), (5, .int (nI b)), (6, .int (nI (m + 1))), (7, .int (nI i)), (8, .int tc), (9, .int (g m))]) rfl ?_
  refine X_aload_n d_Text_says_125 rfl rfl ?_
  refine X_getR (r := t + 3) fg_Text_18 ht rfl d_Text_says_126 ?_
  refine X_iload d_Text_says_129 rfl ?_
  refine X_iconst (v := 1) d_Text_says_131 rfl ?_
  refine X_isub d_Text_says_132 ?_
  refine X_iload d_Text_says_133 rfl ?_
  refine X_sipush (v := 30001) d_Text_says_135 rfl ?_
  refine X_icmp_ne (tgt := 147) d_Text_says_138 (by decide) (fun _ => ?_) (fun c_5 => absurd c_5 hx3)
  refine X_iload d_Text_says_147 rfl ?_
  refine X_if_ne (tgt := 156) d_Text_says_149 (by decide) (fun c_6 => ?_) (fun c_6 => ?_)
  ·
    refine X_iconst (v := 0) d_Text_says_156 rfl ?_
    refine X_astI h3 (by rw [nI_pred]; exact vp_in_nI (show m < 40 by omega) (by decide)) d_Text_says_157 ?_
    rw [nI_pred, nI_cl (show m < 2 ^ 31 by omega)]
    refine X_goto (tgt := 208) d_Text_says_158 (by decide) ?_
    refine X_iinc d_Text_says_208 rfl (v := (nI i) + 1) rfl (by decide) [1, 2, 3, 4, 5, 6, 7, 0, 8, 9] (L' := [(0, .ref (xg G t)), (1, .int part), (2, .ref (xg G h)), (3, .int speed), (4, .int eyes), (5, .int (nI b)), (6, .int (nI (m + 1))), (7, .int ((nI i) + 1)), (8, .int tc), (9, .int (g m))]) rfl ?_
    refine X_goto (tgt := 31) d_Text_says_211 (by decide) ?_
    refine X_sub [0, 1, 2, 3, 4, 5, 6, 7] (L' := [(0, .ref (xg G t)), (1, .int part), (2, .ref (xg G h)), (3, .int speed), (4, .int eyes), (5, .int (nI b)), (6, .int (nI (m + 1))), (7, .int ((nI i) + 1))]) rfl ?_
    simp only [nI_1, xw_rec, xup_n I g hne]
    have hz : xb (decide (g m = 0)) = 0 := by simp [xb, c_6]
    rw [hz] at ih
    exact ih
  ·
    refine X_iconst (v := 1) d_Text_says_152 rfl ?_
    refine X_goto (tgt := 157) d_Text_says_153 (by decide) ?_
    refine X_astI h3 (by rw [nI_pred]; exact vp_in_nI (show m < 40 by omega) (by decide)) d_Text_says_157 ?_
    rw [nI_pred, nI_cl (show m < 2 ^ 31 by omega)]
    refine X_goto (tgt := 208) d_Text_says_158 (by decide) ?_
    refine X_iinc d_Text_says_208 rfl (v := (nI i) + 1) rfl (by decide) [1, 2, 3, 4, 5, 6, 7, 0, 8, 9] (L' := [(0, .ref (xg G t)), (1, .int part), (2, .ref (xg G h)), (3, .int speed), (4, .int eyes), (5, .int (nI b)), (6, .int (nI (m + 1))), (7, .int ((nI i) + 1)), (8, .int tc), (9, .int (g m))]) rfl ?_
    refine X_goto (tgt := 31) d_Text_says_211 (by decide) ?_
    refine X_sub [0, 1, 2, 3, 4, 5, 6, 7] (L' := [(0, .ref (xg G t)), (1, .int part), (2, .ref (xg G h)), (3, .int speed), (4, .int eyes), (5, .int (nI b)), (6, .int (nI (m + 1))), (7, .int ((nI i) + 1))]) rfl ?_
    simp only [nI_1, xw_rec, xup_n I g hne]
    have hz : xb (decide (g m = 0)) = 1 := by simp [xb, c_6]
    rw [hz] at ih
    exact ih
theorem w_Text_says_bin (l : Launch) (G : xG) {d : Nat} (nn : Nat) (Y : xY) (I : xI) (hd : 4 ≤ d) (t h : Nat) (ht : Y t = some (sText t)) (h1 : Y (t + 1) = some (sInts 160)) (h3 : Y (t + 3) = some (sInts 40)) (hh : Y h = some sHead) (hne : h ≠ t + 3) (part speed eyes : Int32) (b : Nat) (hb : b ≤ 160) (r : Int32) (Y' : xY) (I' : xI) (g : Nat → Int32) (i : Nat) (hi : i < b) (tc : Int32) (hc : I (t + 1) i = tc) (m : Nat) (hm : m + 1 + 1 ≤ 40) (hx : 20000 ≤ tc) (hx2 : tc < 30000) (ih : Q_Text_says l G d nn Y I t h part speed eyes b r Y' I' (xup g m (xjoin tc (g m) (g (m + 1)))) (m + 1) (i + 1)) : Q_Text_says l G d nn Y I t h part speed eyes b r Y' I' g (m + 1 + 1) i := by
  unfold Q_Text_says
  refine X_iload d_Text_says_31 rfl ?_
  refine X_iload d_Text_says_33 rfl ?_
  refine X_icmp_ge (tgt := 214) d_Text_says_35 (by decide) (fun c_1 => absurd c_1 (nI_ge hi (by omega))) (fun _ => ?_)
  refine X_aload_n d_Text_says_38 rfl rfl ?_
  refine X_getR (r := t + 1) fg_Text_9 ht rfl d_Text_says_39 ?_
  refine X_iload d_Text_says_42 rfl ?_
  refine X_aldI (v := tc) h1 (vp_in_nI (show i < 160 by omega) (by decide)) ((by rw [nI_cl (show i < 2 ^ 31 by omega)]; exact (congrFun (xup_n _ _ (by omega)) _).trans (hc))) d_Text_says_44 ?_
  refine X_istore d_Text_says_45 (by decide) [1, 2, 3, 4, 5, 6, 7, 8, 0] (L' := [(0, .ref (xg G t)), (1, .int part), (2, .ref (xg G h)), (3, .int speed), (4, .int eyes), (5, .int (nI b)), (6, .int (nI (m + 1 + 1))), (7, .int (nI i)), (8, .int tc)]) rfl ?_
  refine X_iload d_Text_says_47 rfl ?_
  refine X_sipush (v := 20000) d_Text_says_49 rfl ?_
  refine X_icmp_ge (tgt := 100) d_Text_says_52 (by decide) (fun _ => ?_) (fun c_2 => absurd c_2 (not_not_intro hx))
  refine X_iload d_Text_says_100 rfl ?_
  refine X_sipush (v := 30000) d_Text_says_102 rfl ?_
  refine X_icmp_lt (tgt := 161) d_Text_says_105 (by decide) (fun _ => ?_) (fun c_3 => absurd c_3 (not_not_intro hx2))
  refine X_iload d_Text_says_161 rfl ?_
  refine X_sipush (v := 20000) d_Text_says_163 rfl ?_
  refine X_icmp_lt (tgt := 208) d_Text_says_166 (by decide) (fun c_4 => absurd c_4 (Int32.not_lt.mpr hx)) (fun _ => ?_)
  refine X_iload d_Text_says_169 rfl ?_
  refine X_iconst (v := 2) d_Text_says_171 rfl ?_
  refine X_icmp_lt (tgt := 208) d_Text_says_172 (by decide) (fun c_5 => absurd c_5 (show ¬ nI (m + 1 + 1) < nI 2 from nI_nlt (by omega) (by omega))) (fun _ => ?_)
  refine X_iinc d_Text_says_175 rfl (v := (nI (m + 1 + 1)) + (-1)) rfl (by decide) [1, 2, 3, 4, 5, 6, 0, 7, 8] (L' := [(0, .ref (xg G t)), (1, .int part), (2, .ref (xg G h)), (3, .int speed), (4, .int eyes), (5, .int (nI b)), (6, .int ((nI (m + 1 + 1)) + (-1))), (7, .int (nI i)), (8, .int tc)]) rfl ?_
  rw [pk_m1]
  refine X_aload_n d_Text_says_178 rfl rfl ?_
  refine X_getR (r := t + 3) fg_Text_18 ht rfl d_Text_says_179 ?_
  refine X_iload d_Text_says_182 rfl ?_
  refine X_iconst (v := 1) d_Text_says_184 rfl ?_
  refine X_isub d_Text_says_185 ?_
  refine X_iload d_Text_says_186 rfl ?_
  refine X_aload_n d_Text_says_188 rfl rfl ?_
  refine X_getR (r := t + 3) fg_Text_18 ht rfl d_Text_says_189 ?_
  refine X_iload d_Text_says_192 rfl ?_
  refine X_iconst (v := 1) d_Text_says_194 rfl ?_
  refine X_isub d_Text_says_195 ?_
  refine X_aldI (v := g m) h3 (by rw [nI_pred]; exact vp_in_nI (show m < 40 by omega) (by decide)) ((by rw [nI_pred, nI_cl (show m < 2 ^ 31 by omega)]; exact congrFun (xup_s _ _ _) _)) d_Text_says_196 ?_
  refine X_aload_n d_Text_says_197 rfl rfl ?_
  refine X_getR (r := t + 3) fg_Text_18 ht rfl d_Text_says_198 ?_
  refine X_iload d_Text_says_201 rfl ?_
  refine X_aldI (v := g (m + 1)) h3 (vp_in_nI (show m + 1 < 40 by omega) (by decide)) ((by rw [nI_cl (show m + 1 < 2 ^ 31 by omega)]; exact congrFun (xup_s _ _ _) _)) d_Text_says_203 ?_
  refine X_callS (v := .int (xjoin tc (g m) (g (m + 1)))) (rest := [.int ((nI (m + 1)) - 1), .ref (xg G (t + 3))]) (c_Text_joined l G nn Y (xup I (t + 3) g) (by omega) tc (g m) (g (m + 1))) lk_Text_joined ml_Text_45 rfl (Nat.le_of_ble_eq_true rfl) (xRok (d' := d - 1) (by omega) (by decide)) ⟨Nat.le_refl _, Nat.le_refl _⟩ d_Text_says_204 rfl ?_
  refine X_astI h3 (by rw [nI_pred]; exact vp_in_nI (show m < 40 by omega) (by decide)) d_Text_says_207 ?_
  rw [nI_pred, nI_cl (show m < 2 ^ 31 by omega)]
  refine X_iinc d_Text_says_208 rfl (v := (nI i) + 1) rfl (by decide) [1, 2, 3, 4, 5, 6, 7, 0, 8] (L' := [(0, .ref (xg G t)), (1, .int part), (2, .ref (xg G h)), (3, .int speed), (4, .int eyes), (5, .int (nI b)), (6, .int (nI (m + 1))), (7, .int ((nI i) + 1)), (8, .int tc)]) rfl ?_
  refine X_goto (tgt := 31) d_Text_says_211 (by decide) ?_
  refine X_sub [0, 1, 2, 3, 4, 5, 6, 7] (L' := [(0, .ref (xg G t)), (1, .int part), (2, .ref (xg G h)), (3, .int speed), (4, .int eyes), (5, .int (nI b)), (6, .int (nI (m + 1))), (7, .int ((nI i) + 1))]) rfl ?_
  simp only [nI_1, xw_rec, xup_n I g hne]
  exact ih
theorem w_Text_says_exit (l : Launch) (G : xG) {d : Nat} (nn : Nat) (Y : xY) (I : xI) (hd : 4 ≤ d) (t h : Nat) (ht : Y t = some (sText t)) (h1 : Y (t + 1) = some (sInts 160)) (h3 : Y (t + 3) = some (sInts 40)) (hh : Y h = some sHead) (hne : h ≠ t + 3) (part speed eyes : Int32) (b : Nat) (hb : b ≤ 160) (r : Int32) (Y' : xY) (I' : xI) (g : Nat → Int32) (n i : Nat) (hi : i = b) (hr : r = xbd (g 0) 0 (if part = 1 then 100 else 999)) (hle : xle (xm G Y (xup I (t + 3) g)) (xm G Y' I')) : Q_Text_says l G d nn Y I t h part speed eyes b r Y' I' g n i := by
  unfold Q_Text_says
  refine X_iload d_Text_says_31 rfl ?_
  refine X_iload d_Text_says_33 rfl ?_
  refine X_icmp_ge (tgt := 214) d_Text_says_35 (by decide) (fun _ => ?_) (fun c_1 => absurd c_1 (not_not_intro (by rw [hi]; exact Int32.le_refl _)))
  refine X_aload_n d_Text_says_214 rfl rfl ?_
  refine X_getR (r := t + 3) fg_Text_18 ht rfl d_Text_says_215 ?_
  refine X_iconst (v := 0) d_Text_says_218 rfl ?_
  refine X_aldI (v := g 0) h3 (xvp (B := 40) (by decide) (by decide) (by decide)) (congrFun (xup_s _ _ _) _) d_Text_says_219 ?_
  refine X_iconst (v := 0) d_Text_says_220 rfl ?_
  refine X_iload_n d_Text_says_221 rfl rfl ?_
  refine X_iconst (v := 1) d_Text_says_222 rfl ?_
  refine X_icmp_ne (tgt := 231) d_Text_says_223 (by decide) (fun c_2 => ?_) (fun c_2 => ?_)
  ·
    refine X_sipush (v := 999) d_Text_says_231 rfl ?_
    refine X_callSN (v := .int (xbd (g 0) 0 999)) (rest := []) (c_X_bounded l G nn _ (by omega) (g 0) 0 999 (by decide)) lk_X_bounded mn_Text_49 rfl (Nat.le_of_ble_eq_true rfl) (xRok (d' := d - 1) (by omega) (by decide)) ⟨Nat.le_refl _, Nat.le_refl _⟩ d_Text_says_234 rfl ?_
    exact X_iret rfl (congrArg (fun q => some (Value.int q)) (by rw [hr]; simp [c_2])) hle d_Text_says_237
  ·
    refine X_bipush (v := 100) d_Text_says_226 rfl ?_
    refine X_goto (tgt := 234) d_Text_says_228 (by decide) ?_
    refine X_callSN (v := .int (xbd (g 0) 0 100)) (rest := []) (c_X_bounded l G nn _ (by omega) (g 0) 0 100 (by decide)) lk_X_bounded mn_Text_49 rfl (Nat.le_of_ble_eq_true rfl) (xRok (d' := d - 1) (by omega) (by decide)) ⟨Nat.le_refl _, Nat.le_refl _⟩ d_Text_says_234 rfl ?_
    exact X_iret rfl (congrArg (fun q => some (Value.int q)) (by rw [hr]; simp [c_2])) hle d_Text_says_237
theorem says_loop (l : Launch) (G : xG) {d : Nat} (nn : Nat) (Y : xY) (I : xI) (hd : 4 ≤ d) (t h : Nat) (ht : Y t = some (sText t)) (h1 : Y (t + 1) = some (sInts 160)) (h3 : Y (t + 3) = some (sInts 40)) (hh : Y h = some sHead) (hne : h ≠ t + 3) (part speed eyes : Int32) (b : Nat) (hb : b ≤ 160) (r : Int32) (Y' : xY) (I' : xI) (hle : ∀ g, xle (xm G Y (xup I (t + 3) g)) (xm G Y' I')) : ∀ (cs st : List Int32) (g : Nat → Int32) (i : Nat), tDep cs st.length = true → tSt g st → (∀ j, j < cs.length → I (t + 1) (i + j) = tCode (cs.getD j 0)) → i + cs.length = b → st.length ≤ 40 → r = xbd ((tRun (I h) speed eyes cs st).headD 0) 0 (if part = 1 then 100 else 999) → Q_Text_says l G d nn Y I t h part speed eyes b r Y' I' g st.length i := by
  intro cs
  induction cs with
  | nil =>
    intro st g i hdep hst hcode hib hlen hr
    have h1st : st.length = 1 := by simpa [tDep] using hdep
    match st, h1st with
    | [a], _ =>
      refine w_Text_says_exit l G nn Y I hd t h ht h1 h3 hh hne part speed eyes b hb r Y' I' g _ i (by simpa using hib) ?_ (hle g)
      rw [hr, show g 0 = a from tSt_top hst]
      rfl
  | cons c cs ih =>
    intro st g i hdep hst hcode hib hlen hr
    have hlt : i < b := by rw [List.length_cons] at hib; omega
    have hc : I (t + 1) i = tCode c := by have := hcode 0 (by simp); simpa using this
    have hcode' : ∀ j, j < cs.length → I (t + 1) (i + 1 + j) = tCode (cs.getD j 0) := by
      intro j hj
      have := hcode (j + 1) (by rw [List.length_cons]; omega)
      rw [List.getD_cons_succ] at this
      rw [← this]
      congr 1
      omega
    have hib' : i + 1 + cs.length = b := by rw [List.length_cons] at hib; omega
    rw [tDep] at hdep
    rw [tRun] at hr
    unfold tPut at hr
    by_cases hl : tLeaf c = true
    · rw [if_pos hl] at hdep hr
      simp only [Bool.and_eq_true, decide_eq_true_eq] at hdep
      rcases tLeaf_of hl with ⟨q1, q2, q3⟩ | ⟨q1, q2, q3⟩
      · have hv : tVal c (I h) speed eyes = xnamC (tCode c) (I h) speed eyes := by
          rw [tVal, if_pos (by grind), q3, xnam_c q1 q2]
        refine w_Text_says_name l G nn Y I hd t h ht h1 h3 hh hne part speed eyes b hb r Y' I' g i hlt (tCode c) hc _ hdep.1 (by rw [q3]; grind) (by rw [q3]; grind) ?_
        rw [← hv]
        exact ih (tVal c (I h) speed eyes :: st) _ (i + 1) hdep.2 (tSt_push hst _) hcode' hib' (by rw [List.length_cons]; omega) hr
      · have hv : tVal c (I h) speed eyes = tCode c := by rw [tVal, if_neg (by grind), q3]
        refine w_Text_says_num l G nn Y I hd t h ht h1 h3 hh hne part speed eyes b hb r Y' I' g i hlt (tCode c) hc _ hdep.1 (by rw [q3]; grind) (by rw [q3]; grind) ?_
        rw [← hv]
        exact ih (tVal c (I h) speed eyes :: st) _ (i + 1) hdep.2 (tSt_push hst _) hcode' hib' (by rw [List.length_cons]; omega) hr
    · rw [if_neg hl] at hdep hr
      by_cases hu : tUn c = true
      · rw [if_pos hu] at hdep hr
        simp only [Bool.and_eq_true, decide_eq_true_eq] at hdep
        match st, hdep.1 with
        | a :: st, _ =>
          have ha := tSt_top hst
          have hpush := tSt_push (tSt_tl hst)
          rcases tUn_of hu with rfl | rfl
          · refine w_Text_says_not l G nn Y I hd t h ht h1 h3 hh hne part speed eyes b hb r Y' I' g i hlt (tCode 13) hc st.length hlen (by decide) (by decide) (by decide) ?_
            rw [ha]
            exact ih (tOne 13 a :: st) _ (i + 1) hdep.2 (hpush _) hcode' hib' hlen hr
          · refine w_Text_says_neg l G nn Y I hd t h ht h1 h3 hh hne part speed eyes b hb r Y' I' g i hlt (tCode 19) hc st.length hlen (by decide) (by decide) (by decide) ?_
            rw [ha]
            exact ih (tOne 19 a :: st) _ (i + 1) hdep.2 (hpush _) hcode' hib' hlen hr
      · rw [if_neg hu] at hdep hr
        simp only [Bool.and_eq_true, decide_eq_true_eq] at hdep
        obtain ⟨⟨hbin, h2⟩, hd2⟩ := hdep
        match st, h2 with
        | y :: x :: st, _ =>
          have hy := tSt_top hst
          have hx := tSt_top (tSt_tl hst)
          have hpush := tSt_push (tSt_tl (tSt_tl hst))
          rw [List.length_cons] at hy
          obtain ⟨q1, q2⟩ := tCode_bin hbin
          refine w_Text_says_bin l G nn Y I hd t h ht h1 h3 hh hne part speed eyes b hb r Y' I' g i hlt (tCode c) hc st.length hlen q1 q2 ?_
          rw [hx, hy, xjoin_c hbin]
          exact ih (xtwo c x y :: st) _ (i + 1) hd2 (hpush _) hcode' hib' (by simp at hlen ⊢; omega) hr
theorem xTx_part {Y : xY} {I : xI} {t : Nat} {S : xSay} (hT : xTx Y I t S) {part : Int32} (hp : part = 0 ∨ part = 1 ∨ part = 2) : ∃ (P : List Int32) (a b : Nat), (∀ speed eyes f, S part speed eyes f = xbd (tEval P f speed eyes) 0 (if part = 1 then 100 else 999)) ∧ tDep P 0 = true ∧ a + P.length = b ∧ b ≤ 160 ∧ xpe I t part = nI b ∧ xpe I t (part - 1) = nI a ∧ ∀ j, j < P.length → I (t + 1) (a + j) = tCode (P.getD j 0) := by
  obtain ⟨-, P, hS, h4, hlen, e0, e1, e2, hcode, d0, d1, d2⟩ := hT
  have hl : (tAll P).length = (P 0).length + ((P 1).length + (P 2).length) := by simp [tAll]
  subst hS
  rcases hp with rfl | rfl | rfl
  · refine ⟨P 0, 0, (P 0).length, fun _ _ _ => rfl, d0, by omega, by omega, ?_, ?_, fun j hj => ?_⟩
    · rw [← e0, xpe, h4]; rfl
    · rfl
    · rw [hcode (0 + j) (by omega), tAll, gD_l _ _ (by omega), Nat.zero_add]
  · refine ⟨P 1, (P 0).length, (P 0).length + (P 1).length, fun _ _ _ => rfl, d1, rfl, by omega, ?_, ?_, fun j hj => ?_⟩
    · rw [← e1, xpe, h4]; rfl
    · rw [← e0, xpe, h4]; rfl
    · rw [hcode _ (by omega), tAll, gD_r _ _ (by omega), gD_l _ _ (by omega), Nat.add_sub_cancel_left]
  · refine ⟨P 2, (P 0).length + (P 1).length, (P 0).length + (P 1).length + (P 2).length, fun _ _ _ => rfl, d2, rfl, by omega, ?_, ?_, fun j hj => ?_⟩
    · rw [← e2, xpe, h4]; rfl
    · rw [← e1, xpe, h4]; rfl
    · rw [hcode _ (by omega), tAll, gD_r _ _ (by omega), gD_r _ _ (by omega)]
      congr 2
      omega
theorem c_Text_says (l : Launch) (G : xG) {d : Nat} (nn : Nat) (Y : xY) (I : xI) (hd : 4 ≤ d) (t : Nat) (S : xSay) (hT : xTx Y I t S) (h : Nat) (hh : Y h = some sHead) (part speed eyes : Int32) (hp : part = 0 ∨ part = 1 ∨ part = 2) : XM l G d y_Text_says b_Text_says 10 (some .int) 0 0 xK0 [.ref (xg G t), .int part, .ref (xg G h), .int speed, .int eyes] nn (xm G Y I) (some (.int (S part speed eyes (I h)))) nn (xm G Y I) := by
  obtain ⟨P, a, b, hS, hdep, hab, hb, hpe, hpa, hcode⟩ := xTx_part hT hp
  obtain ⟨⟨ht, h1, h2, h3⟩, -⟩ := hT
  have hne : h ≠ t + 3 := by intro q; rw [q, h3] at hh; cases hh
  have ht' : xup Y (t + 3) (some (sInts 40)) t = some (sText t) := (xup_n _ _ (by omega)).trans ht
  have h1' : xup Y (t + 3) (some (sInts 40)) (t + 1) = some (sInts 160) := (xup_n _ _ (by omega)).trans h1
  have h2' : xup Y (t + 3) (some (sInts 40)) (t + 2) = some (sInts 3) := (xup_n _ _ (by omega)).trans h2
  have h3' : xup Y (t + 3) (some (sInts 40)) (t + 3) = some (sInts 40) := xup_s _ _ _
  have hh' : xup Y (t + 3) (some (sInts 40)) h = some sHead := (xup_n _ _ hne).trans hh
  have hle : ∀ g, xle (xm G (xup Y (t + 3) (some (sInts 40))) (xup I (t + 3) g)) (xm G Y I) := by
    intro g
    refine xle_fg fun k => ?_
    by_cases hk : k = t + 3
    · subst hk
      exact Or.inr (Or.inl ⟨40, xup_s _ _ _, by decide, h3⟩)
    · exact Or.inl ⟨(xup_n _ _ hk).symm, xup_n _ _ hk⟩
  have hpe' : ∀ g, xpe (xup I (t + 3) g) t part = nI b := by
    intro g
    rw [← hpe, xpe, xpe, xup_n _ _ (show t ≠ t + 3 by omega), xup_n _ _ (show t + 2 ≠ t + 3 by omega)]
  have hpa' : ∀ g, xpe (xup I (t + 3) g) t (part - 1) = nI a := by
    intro g
    rw [← hpa, xpe, xpe, xup_n _ _ (show t ≠ t + 3 by omega), xup_n _ _ (show t + 2 ≠ t + 3 by omega)]
  have hmin : (if (160 : Int32) < nI b then 160 else nI b) = nI b := if_neg (show ¬ nI 160 < nI b from nI_nlt (by omega) (by decide))
  have hmax : (if (0 : Int32) < nI a then nI a else 0) = nI a := by
    by_cases q : (0 : Int32) < nI a
    · rw [if_pos q]
    · rw [if_neg q]
      have : a = 0 := by
        rcases Nat.eq_zero_or_pos a with q2 | q2
        · exact q2
        · exact absurd (show nI 0 < nI a from nI_lt q2 (by omega)) q
      rw [this]
      rfl
  refine XM.of (by decide) (Nat.le_of_ble_eq_true rfl) (L := [(0, .ref (xg G t)), (1, .int part), (2, .ref (xg G h)), (3, .int speed), (4, .int eyes)]) rfl ?_
  refine X_knowI (by decide) h3 (fun g => ?_)
  refine X_aload_n d_Text_says_0 rfl rfl ?_
  refine X_iload_n d_Text_says_1 rfl rfl ?_
  refine X_callV (v := .int (xpe (xup I (t + 3) g) t part)) (rest := []) (c_Text_partEnd l G nn (xup Y (t + 3) (some (sInts 40))) (xup I (t + 3) g) (by omega) t ht' h2' part) lk_Text_partEnd ml_Text_28 (xm_obj ht') rfl rfl (Nat.le_of_ble_eq_true rfl) (xRok (d' := d - 1) (by omega) (by decide)) ⟨Nat.le_refl _, Nat.le_refl _⟩ d_Text_says_2 rfl ?_
  rw [hpe']
  refine X_aload_n d_Text_says_5 rfl rfl ?_
  refine X_getR (r := t + 1) fg_Text_9 ht' rfl d_Text_says_6 ?_
  refine X_alenI (v := 160) h1' rfl d_Text_says_9 ?_
  refine X_mmin ml_Text_32 mt_min mi_math mc_min (xRm (by omega) (Nat.le_of_ble_eq_true rfl)) ⟨Nat.zero_le _, Nat.zero_le _⟩ d_Text_says_10 ?_
  rw [hmin]
  refine X_istore d_Text_says_13 (by decide) [1, 2, 3, 4, 5, 0] (L' := [(0, .ref (xg G t)), (1, .int part), (2, .ref (xg G h)), (3, .int speed), (4, .int eyes), (5, .int (nI b))]) rfl ?_
  refine X_iconst (v := 0) d_Text_says_15 rfl ?_
  refine X_istore d_Text_says_16 (by decide) [1, 2, 3, 4, 5, 6, 0] (L' := [(0, .ref (xg G t)), (1, .int part), (2, .ref (xg G h)), (3, .int speed), (4, .int eyes), (5, .int (nI b)), (6, .int 0)]) rfl ?_
  refine X_iconst (v := 0) d_Text_says_18 rfl ?_
  refine X_aload_n d_Text_says_19 rfl rfl ?_
  refine X_iload_n d_Text_says_20 rfl rfl ?_
  refine X_iconst (v := 1) d_Text_says_21 rfl ?_
  refine X_isub d_Text_says_22 ?_
  refine X_callV (v := .int (xpe (xup I (t + 3) g) t (part - 1))) (rest := [.int 0]) (c_Text_partEnd l G nn (xup Y (t + 3) (some (sInts 40))) (xup I (t + 3) g) (by omega) t ht' h2' (part - 1)) lk_Text_partEnd ml_Text_28 (xm_obj ht') rfl rfl (Nat.le_of_ble_eq_true rfl) (xRok (d' := d - 1) (by omega) (by decide)) ⟨Nat.le_refl _, Nat.le_refl _⟩ d_Text_says_23 rfl ?_
  rw [hpa']
  refine X_mmax ml_Text_38 mt_max mi_math mc_max (xRm (by omega) (Nat.le_of_ble_eq_true rfl)) ⟨Nat.zero_le _, Nat.zero_le _⟩ d_Text_says_26 ?_
  rw [hmax]
  refine X_istore d_Text_says_29 (by decide) [1, 2, 3, 4, 5, 6, 7, 0] (L' := [(0, .ref (xg G t)), (1, .int part), (2, .ref (xg G h)), (3, .int speed), (4, .int eyes), (5, .int (nI b)), (6, .int 0), (7, .int (nI a))]) rfl ?_
  exact says_loop l G nn (xup Y (t + 3) (some (sInts 40))) I hd t h ht' h1' h3' hh' hne part speed eyes b hb _ Y I hle P [] g a hdep (fun k hk => absurd hk (Nat.not_lt_zero k)) hcode hab (by decide) (by rw [hS]; rfl)
