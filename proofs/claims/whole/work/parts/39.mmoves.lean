theorem mS_b {I : xI} {ln : Nat} {S : xSay} (h : mTx I ln S) (p sp ey : Int32) (f : Nat → Int32) : ¬ S p sp ey f < 0 ∧ S p sp ey f ≤ 999 := by
  obtain ⟨P, rfl, -⟩ := h
  unfold tSay xbd
  by_cases hp : p = 1
  · rw [if_pos hp]
    grind
  · rw [if_neg hp]
    grind
theorem mBu {z sp mo : Int32} (hz : ¬ z < 0 ∧ z ≤ 999) (hs : ¬ sp < 0 ∧ sp ≤ 9) (hm : ¬ mo < 0 ∧ mo ≤ 9) : (¬ z / 2 < 0) ∧ (¬ z / 2 / 2 < 0) ∧ ¬ z + sp * mo < 0 := by
  obtain ⟨a, ha, rfl⟩ := nI_of2 (n := 999) rfl hz.1 hz.2
  obtain ⟨b, hb, rfl⟩ := nI_of2 (n := 9) rfl hs.1 hs.2
  obtain ⟨c, hc, rfl⟩ := nI_of2 (n := 9) rfl hm.1 hm.2
  have hbc : b * c ≤ 9 * 9 := Nat.mul_le_mul hb hc
  have e1 : nI a / 2 = nI (a / 2) := pk_div (a := a) (d := 2) (by omega) (by decide) (by decide)
  have e2 : nI (a / 2) / 2 = nI (a / 2 / 2) := pk_div (a := a / 2) (d := 2) (by omega) (by decide) (by decide)
  rw [e1, e2, nI_mul, nI_add]
  exact ⟨nI_pos (by omega), nI_pos (by omega), nI_pos (by omega)⟩
theorem c_Model_buildsOf (l : Launch) (G : xG) {d : Nat} (nn : Nat) (hd : 4 ≤ d) (I : xI) (ln i : Nat) (S : xSay) (hK : mK I ln S) (hi : i < 5) (f : Nat → Int32) (hf : mRec I i f) (e : Int32) (speed : Int32) (hs : ¬ speed < 0 ∧ speed ≤ 9) (hm : ¬ f 1 < 0 ∧ f 1 ≤ 9) : XM l G d y_Model_buildsOf b_Model_buildsOf 4 (some .int) 0 0 xK0 [.ref (xg G 59), .int (nI i), .int speed] nn (xm G xYf (xup I 59 (sc (I 59) f e))) (some (.int (kBuilds (f 0) (S 0 speed 1 f) speed (f 1)))) nn (xm G xYf (xup I 59 (sc (I 59) f e))) := by
  have hz := mS_b hK.1 0 speed 1 f
  have hz0 := hz.1
  obtain ⟨g1, g2, g3⟩ := mBu hz hs hm
  refine XM.of (by decide) (Nat.le_of_ble_eq_true rfl) (L := [(0, .ref (xg G 59)), (1, .int (nI i)), (2, .int speed)]) rfl ?_
  refine X_aload_n d_Model_buildsOf_0 rfl rfl ?_
  refine X_iconst (v := 0) d_Model_buildsOf_1 rfl ?_
  refine X_iload_n d_Model_buildsOf_2 rfl rfl ?_
  refine X_iload_n d_Model_buildsOf_3 rfl rfl ?_
  refine X_iconst (v := 1) d_Model_buildsOf_4 rfl ?_
  refine X_callV (v := .int (S 0 speed 1 f)) (rest := []) (k_Model_asksOf l G nn (by omega) I ln i S hK hi f hf e 0 (by omega) speed 1) lk_Model_asksOf ml_Model_152 (xm_obj (show xYf 59 = some sModel from rfl)) rfl rfl (Nat.le_of_ble_eq_true rfl) (xRok (d' := d - 1) (by omega) (by decide)) ⟨Nat.le_refl _, Nat.le_refl _⟩ d_Model_buildsOf_5 rfl ?_
  refine X_istore_n d_Model_buildsOf_8 rfl (by decide) [1, 2, 3, 0] (L' := [(0, .ref (xg G 59)), (1, .int (nI i)), (2, .int speed), (3, .int (S 0 speed 1 f))]) rfl ?_
  refine X_aload_n d_Model_buildsOf_9 rfl rfl ?_
  refine X_getR (r := 60) fg_Model_7 (show xYf 59 = some sModel from rfl) rfl d_Model_buildsOf_10 ?_
  refine X_iload_n d_Model_buildsOf_13 rfl rfl ?_
  refine X_aldI (v := f 0) (show xYf 60 = some (sInts 5) from rfl) (ixin (show nI i = nI i from rfl) (show i < 5 by omega) (by decide)) ((ixv (show nI i = nI i from rfl) (show i < 2 ^ 31 by omega) ((congrFun (xup_n _ _ (by decide)) _).trans (hf.1.symm)))) d_Model_buildsOf_14 ?_
  by_cases c_1 : (f 0) = 1
  ·
    refine X_tableIn (tgt := 48) d_Model_buildsOf_15 (by rw [c_1]; decide) (by rw [c_1]; decide) (by rw [c_1]; rfl) (by decide) ?_
    refine X_iload_n d_Model_buildsOf_48 rfl rfl ?_
    refine X_iconst (v := 2) d_Model_buildsOf_49 rfl ?_
    refine X_idiv d_Model_buildsOf_50 (by decide) ?_
    refine X_istore_n d_Model_buildsOf_51 rfl (by decide) [1, 2, 3, 0] (L' := [(0, .ref (xg G 59)), (1, .int (nI i)), (2, .int speed), (3, .int ((S 0 speed 1 f) / 2))]) rfl ?_
    refine X_goto (tgt := 103) d_Model_buildsOf_52 (by decide) ?_
    refine X_iload_n d_Model_buildsOf_103 rfl rfl ?_
    refine X_if_ge (tgt := 111) d_Model_buildsOf_104 (by decide) (fun c_2 => ?_) (fun c_2 => ?_)
    ·
      refine X_iload_n d_Model_buildsOf_111 rfl rfl ?_
      exact X_iret rfl (congrArg (fun q => some (Value.int q)) (by first | (simp [kBuilds, c_1, c_2, Int32.not_lt.mpr c_2, hz0, g1, g2, g3]; done) | (exfalso; grind) | (simp_all [kBuilds]; done))) (xle_rf _) d_Model_buildsOf_112
    ·
      refine X_iconst (v := 0) d_Model_buildsOf_107 rfl ?_
      refine X_goto (tgt := 112) d_Model_buildsOf_108 (by decide) ?_
      exact X_iret rfl (congrArg (fun q => some (Value.int q)) (by first | (simp [kBuilds, c_1, c_2, Int32.not_le.mp c_2, hz0, g1, g2, g3]; done) | (exfalso; grind) | (simp_all [kBuilds]; done))) (xle_rf _) d_Model_buildsOf_112
  by_cases c_3 : (f 0) = 2
  ·
    refine X_tableIn (tgt := 55) d_Model_buildsOf_15 (by rw [c_3]; decide) (by rw [c_3]; decide) (by rw [c_3]; rfl) (by decide) ?_
    refine X_iload_n d_Model_buildsOf_55 rfl rfl ?_
    refine X_iconst (v := 5) d_Model_buildsOf_56 rfl ?_
    refine X_aload_n d_Model_buildsOf_57 rfl rfl ?_
    refine X_getR (r := 61) fg_Model_13 (show xYf 59 = some sModel from rfl) rfl d_Model_buildsOf_58 ?_
    refine X_iload_n d_Model_buildsOf_61 rfl rfl ?_
    refine X_aldI (v := f 1) (show xYf 61 = some (sInts 5) from rfl) (ixin (show nI i = nI i from rfl) (show i < 5 by omega) (by decide)) ((ixv (show nI i = nI i from rfl) (show i < 2 ^ 31 by omega) ((congrFun (xup_n _ _ (by decide)) _).trans (hf.2.1.symm)))) d_Model_buildsOf_62 ?_
    refine X_imul d_Model_buildsOf_63 ?_
    refine X_isub d_Model_buildsOf_64 ?_
    refine X_istore_n d_Model_buildsOf_65 rfl (by decide) [1, 2, 3, 0] (L' := [(0, .ref (xg G 59)), (1, .int (nI i)), (2, .int speed), (3, .int ((S 0 speed 1 f) - (5 * (f 1))))]) rfl ?_
    refine X_goto (tgt := 103) d_Model_buildsOf_66 (by decide) ?_
    refine X_iload_n d_Model_buildsOf_103 rfl rfl ?_
    refine X_if_ge (tgt := 111) d_Model_buildsOf_104 (by decide) (fun c_4 => ?_) (fun c_4 => ?_)
    ·
      refine X_iload_n d_Model_buildsOf_111 rfl rfl ?_
      exact X_iret rfl (congrArg (fun q => some (Value.int q)) (by first | (simp [kBuilds, c_1, c_3, c_4, Int32.not_lt.mpr c_4, hz0, g1, g2, g3]; done) | (exfalso; grind) | (simp_all [kBuilds]; done))) (xle_rf _) d_Model_buildsOf_112
    ·
      refine X_iconst (v := 0) d_Model_buildsOf_107 rfl ?_
      refine X_goto (tgt := 112) d_Model_buildsOf_108 (by decide) ?_
      exact X_iret rfl (congrArg (fun q => some (Value.int q)) (by first | (simp [kBuilds, c_1, c_3, c_4, Int32.not_le.mp c_4, hz0, g1, g2, g3]; done) | (exfalso; grind) | (simp_all [kBuilds]; done))) (xle_rf _) d_Model_buildsOf_112
  by_cases c_5 : (f 0) = 3
  ·
    refine X_tableIn (tgt := 69) d_Model_buildsOf_15 (by rw [c_5]; decide) (by rw [c_5]; decide) (by rw [c_5]; rfl) (by decide) ?_
    refine X_iload_n d_Model_buildsOf_69 rfl rfl ?_
    refine X_iconst (v := 4) d_Model_buildsOf_70 rfl ?_
    refine X_icmp_le (tgt := 82) d_Model_buildsOf_71 (by decide) (fun c_6 => ?_) (fun c_6 => ?_)
    ·
      refine X_iload_n d_Model_buildsOf_82 rfl rfl ?_
      refine X_iconst (v := 2) d_Model_buildsOf_83 rfl ?_
      refine X_idiv d_Model_buildsOf_84 (by decide) ?_
      refine X_istore_n d_Model_buildsOf_85 rfl (by decide) [1, 2, 3, 0] (L' := [(0, .ref (xg G 59)), (1, .int (nI i)), (2, .int speed), (3, .int ((S 0 speed 1 f) / 2))]) rfl ?_
      refine X_goto (tgt := 103) d_Model_buildsOf_86 (by decide) ?_
      refine X_iload_n d_Model_buildsOf_103 rfl rfl ?_
      refine X_if_ge (tgt := 111) d_Model_buildsOf_104 (by decide) (fun c_7 => ?_) (fun c_7 => ?_)
      ·
        refine X_iload_n d_Model_buildsOf_111 rfl rfl ?_
        exact X_iret rfl (congrArg (fun q => some (Value.int q)) (by first | (simp [kBuilds, c_1, c_3, c_5, c_6, Int32.not_lt.mpr c_6, c_7, Int32.not_lt.mpr c_7, hz0, g1, g2, g3]; done) | (exfalso; grind) | (simp_all [kBuilds]; done))) (xle_rf _) d_Model_buildsOf_112
      ·
        refine X_iconst (v := 0) d_Model_buildsOf_107 rfl ?_
        refine X_goto (tgt := 112) d_Model_buildsOf_108 (by decide) ?_
        exact X_iret rfl (congrArg (fun q => some (Value.int q)) (by first | (simp [kBuilds, c_1, c_3, c_5, c_6, Int32.not_lt.mpr c_6, c_7, Int32.not_le.mp c_7, hz0, g1, g2, g3]; done) | (exfalso; grind) | (simp_all [kBuilds]; done))) (xle_rf _) d_Model_buildsOf_112
    ·
      refine X_iload_n d_Model_buildsOf_74 rfl rfl ?_
      refine X_iconst (v := 2) d_Model_buildsOf_75 rfl ?_
      refine X_idiv d_Model_buildsOf_76 (by decide) ?_
      refine X_iconst (v := 2) d_Model_buildsOf_77 rfl ?_
      refine X_idiv d_Model_buildsOf_78 (by decide) ?_
      refine X_goto (tgt := 85) d_Model_buildsOf_79 (by decide) ?_
      refine X_istore_n d_Model_buildsOf_85 rfl (by decide) [1, 2, 3, 0] (L' := [(0, .ref (xg G 59)), (1, .int (nI i)), (2, .int speed), (3, .int (((S 0 speed 1 f) / 2) / 2))]) rfl ?_
      refine X_goto (tgt := 103) d_Model_buildsOf_86 (by decide) ?_
      refine X_iload_n d_Model_buildsOf_103 rfl rfl ?_
      refine X_if_ge (tgt := 111) d_Model_buildsOf_104 (by decide) (fun c_8 => ?_) (fun c_8 => ?_)
      ·
        refine X_iload_n d_Model_buildsOf_111 rfl rfl ?_
        exact X_iret rfl (congrArg (fun q => some (Value.int q)) (by first | (simp [kBuilds, c_1, c_3, c_5, c_6, Int32.not_le.mp c_6, c_8, Int32.not_lt.mpr c_8, hz0, g1, g2, g3]; done) | (exfalso; grind) | (simp_all [kBuilds]; done))) (xle_rf _) d_Model_buildsOf_112
      ·
        refine X_iconst (v := 0) d_Model_buildsOf_107 rfl ?_
        refine X_goto (tgt := 112) d_Model_buildsOf_108 (by decide) ?_
        exact X_iret rfl (congrArg (fun q => some (Value.int q)) (by first | (simp [kBuilds, c_1, c_3, c_5, c_6, Int32.not_le.mp c_6, c_8, Int32.not_le.mp c_8, hz0, g1, g2, g3]; done) | (exfalso; grind) | (simp_all [kBuilds]; done))) (xle_rf _) d_Model_buildsOf_112
  by_cases c_9 : (f 0) = 4
  ·
    refine X_tableIn (tgt := 55) d_Model_buildsOf_15 (by rw [c_9]; decide) (by rw [c_9]; decide) (by rw [c_9]; rfl) (by decide) ?_
    refine X_iload_n d_Model_buildsOf_55 rfl rfl ?_
    refine X_iconst (v := 5) d_Model_buildsOf_56 rfl ?_
    refine X_aload_n d_Model_buildsOf_57 rfl rfl ?_
    refine X_getR (r := 61) fg_Model_13 (show xYf 59 = some sModel from rfl) rfl d_Model_buildsOf_58 ?_
    refine X_iload_n d_Model_buildsOf_61 rfl rfl ?_
    refine X_aldI (v := f 1) (show xYf 61 = some (sInts 5) from rfl) (ixin (show nI i = nI i from rfl) (show i < 5 by omega) (by decide)) ((ixv (show nI i = nI i from rfl) (show i < 2 ^ 31 by omega) ((congrFun (xup_n _ _ (by decide)) _).trans (hf.2.1.symm)))) d_Model_buildsOf_62 ?_
    refine X_imul d_Model_buildsOf_63 ?_
    refine X_isub d_Model_buildsOf_64 ?_
    refine X_istore_n d_Model_buildsOf_65 rfl (by decide) [1, 2, 3, 0] (L' := [(0, .ref (xg G 59)), (1, .int (nI i)), (2, .int speed), (3, .int ((S 0 speed 1 f) - (5 * (f 1))))]) rfl ?_
    refine X_goto (tgt := 103) d_Model_buildsOf_66 (by decide) ?_
    refine X_iload_n d_Model_buildsOf_103 rfl rfl ?_
    refine X_if_ge (tgt := 111) d_Model_buildsOf_104 (by decide) (fun c_10 => ?_) (fun c_10 => ?_)
    ·
      refine X_iload_n d_Model_buildsOf_111 rfl rfl ?_
      exact X_iret rfl (congrArg (fun q => some (Value.int q)) (by first | (simp [kBuilds, c_1, c_3, c_5, c_9, c_10, Int32.not_lt.mpr c_10, hz0, g1, g2, g3]; done) | (exfalso; grind) | (simp_all [kBuilds]; done))) (xle_rf _) d_Model_buildsOf_112
    ·
      refine X_iconst (v := 0) d_Model_buildsOf_107 rfl ?_
      refine X_goto (tgt := 112) d_Model_buildsOf_108 (by decide) ?_
      exact X_iret rfl (congrArg (fun q => some (Value.int q)) (by first | (simp [kBuilds, c_1, c_3, c_5, c_9, c_10, Int32.not_le.mp c_10, hz0, g1, g2, g3]; done) | (exfalso; grind) | (simp_all [kBuilds]; done))) (xle_rf _) d_Model_buildsOf_112
  by_cases c_11 : (f 0) = 5
  ·
    refine X_tableIn (tgt := 89) d_Model_buildsOf_15 (by rw [c_11]; decide) (by rw [c_11]; decide) (by rw [c_11]; rfl) (by decide) ?_
    refine X_iload_n d_Model_buildsOf_89 rfl rfl ?_
    refine X_iload_n d_Model_buildsOf_90 rfl rfl ?_
    refine X_aload_n d_Model_buildsOf_91 rfl rfl ?_
    refine X_getR (r := 61) fg_Model_13 (show xYf 59 = some sModel from rfl) rfl d_Model_buildsOf_92 ?_
    refine X_iload_n d_Model_buildsOf_95 rfl rfl ?_
    refine X_aldI (v := f 1) (show xYf 61 = some (sInts 5) from rfl) (ixin (show nI i = nI i from rfl) (show i < 5 by omega) (by decide)) ((ixv (show nI i = nI i from rfl) (show i < 2 ^ 31 by omega) ((congrFun (xup_n _ _ (by decide)) _).trans (hf.2.1.symm)))) d_Model_buildsOf_96 ?_
    refine X_imul d_Model_buildsOf_97 ?_
    refine X_iadd d_Model_buildsOf_98 ?_
    refine X_istore_n d_Model_buildsOf_99 rfl (by decide) [1, 2, 3, 0] (L' := [(0, .ref (xg G 59)), (1, .int (nI i)), (2, .int speed), (3, .int ((S 0 speed 1 f) + (speed * (f 1))))]) rfl ?_
    refine X_goto (tgt := 103) d_Model_buildsOf_100 (by decide) ?_
    refine X_iload_n d_Model_buildsOf_103 rfl rfl ?_
    refine X_if_ge (tgt := 111) d_Model_buildsOf_104 (by decide) (fun c_12 => ?_) (fun c_12 => ?_)
    ·
      refine X_iload_n d_Model_buildsOf_111 rfl rfl ?_
      exact X_iret rfl (congrArg (fun q => some (Value.int q)) (by first | (simp [kBuilds, c_1, c_3, c_5, c_9, c_11, c_12, Int32.not_lt.mpr c_12, hz0, g1, g2, g3]; done) | (exfalso; grind) | (simp_all [kBuilds]; done))) (xle_rf _) d_Model_buildsOf_112
    ·
      refine X_iconst (v := 0) d_Model_buildsOf_107 rfl ?_
      refine X_goto (tgt := 112) d_Model_buildsOf_108 (by decide) ?_
      exact X_iret rfl (congrArg (fun q => some (Value.int q)) (by first | (simp [kBuilds, c_1, c_3, c_5, c_9, c_11, c_12, Int32.not_le.mp c_12, hz0, g1, g2, g3]; done) | (exfalso; grind) | (simp_all [kBuilds]; done))) (xle_rf _) d_Model_buildsOf_112
  refine X_tableOut (tgt := 103) d_Model_buildsOf_15 (xtout (f 0) (1) (5) (by decide) (by intro q h1 h2; have hq : q = 1 ∨ q = 2 ∨ q = 3 ∨ q = 4 ∨ q = 5 := (by omega); rcases hq with rfl | rfl | rfl | rfl | rfl <;> first | exact c_1 | exact c_3 | exact c_5 | exact c_9 | exact c_11)) (by decide) ?_
  refine X_iload_n d_Model_buildsOf_103 rfl rfl ?_
  refine X_if_ge (tgt := 111) d_Model_buildsOf_104 (by decide) (fun c_13 => ?_) (fun c_13 => ?_)
  ·
    refine X_iload_n d_Model_buildsOf_111 rfl rfl ?_
    exact X_iret rfl (congrArg (fun q => some (Value.int q)) (by first | (simp [kBuilds, c_1, c_3, c_5, c_9, c_11, c_13, Int32.not_lt.mpr c_13, hz0, g1, g2, g3]; done) | (exfalso; grind) | (simp_all [kBuilds]; done))) (xle_rf _) d_Model_buildsOf_112
  ·
    refine X_iconst (v := 0) d_Model_buildsOf_107 rfl ?_
    refine X_goto (tgt := 112) d_Model_buildsOf_108 (by decide) ?_
    exact X_iret rfl (congrArg (fun q => some (Value.int q)) (by first | (simp [kBuilds, c_1, c_3, c_5, c_9, c_11, c_13, Int32.not_le.mp c_13, hz0, g1, g2, g3]; done) | (exfalso; grind) | (simp_all [kBuilds]; done))) (xle_rf _) d_Model_buildsOf_112
theorem hSpinN_1 (S : xSay) (sp sd : Int32) (f : Nat → Int32) : ∀ k, hSpinN S sp sd k f 1 = f 1
  | 0 => rfl
  | k + 1 => by
    rw [hSpinN, hSpin1, hFade, xup_n _ _ (by decide), xup_n _ _ (by decide)]
    exact hSpinN_1 S sp sd f k
theorem hSide_p {n : Int32} (h : ¬ n < 0) (h2 : ¬ n = 0) : hSide n = 1 := by rw [hSide, if_pos (by grind)]
theorem hSide_m {n : Int32} (h : n < 0) : hSide n = -1 := by rw [hSide, if_neg (by grind)]
def Q_Model_turns (l : Launch) (G : xG) (d nn : Nat) (I : xI) (i : Nat) (S : xSay) (n speed : Int32) (f : Nat → Int32) (e : Int32) (N k : Nat) : Prop := XW l G (xR d 0 0) y_Model_turns b_Model_turns 6 none xK0 (xZ G nn (xm G xYf (xup I 59 (sc (I 59) (hSpinN S speed (hSide n) N f) e))) none 0 0) nn (xm G xYf (xup I 59 (sc (I 59) (hSpinN S speed (hSide n) k f) e))) 0 0 3 [(0, .ref (xg G 59)), (1, .int (nI i)), (2, .int n), (3, .int speed), (4, .int (nI k))] []
theorem w_Model_turns (l : Launch) (G : xG) {d : Nat} (nn : Nat) (hd : 6 ≤ d) (I : xI) (ln i : Nat) (S : xSay) (hK : mK I ln S) (hi : i < 5) (f : Nat → Int32) (hf : mRec I i f) (e : Int32) (n speed : Int32) (hs : ¬ speed < 0 ∧ speed ≤ 9) (hm : ¬ f 1 < 0 ∧ f 1 ≤ 9) (N : Nat) (hN : xabs n = nI N) (hN2 : N < 1000) (k : Nat) (hk : k ≤ N) (ih : k < N → Q_Model_turns l G d nn I i S n speed f e N (k + 1)) : Q_Model_turns l G d nn I i S n speed f e N k := by
  unfold Q_Model_turns
  refine X_iload d_Model_turns_3 rfl ?_
  refine X_iload_n d_Model_turns_5 rfl rfl ?_
  refine X_callS (v := .int (nI N)) (rest := [.int (nI k)]) (by have q := c_Model_size0 l G nn (xm G xYf (xup I 59 (sc (I 59) (hSpinN S speed (hSide n) k f) e))) (d := d - 1) (by omega) n; rw [hN] at q; exact q) lk_Model_size0 ml_Model_164 rfl (Nat.le_of_ble_eq_true rfl) (xRok (d' := d - 1) (by omega) (by decide)) ⟨Nat.le_refl _, Nat.le_refl _⟩ d_Model_turns_6 rfl ?_
  refine X_icmp_ge (tgt := 66) d_Model_turns_9 (by decide) (fun c_1 => ?_) (fun c_1 => ?_)
  ·
    have hz : k = N := nI_done hk (by omega) c_1
    subst hz
    exact X_vret rfl rfl (xle_rf _) d_Model_turns_66
  ·
    refine X_aload_n d_Model_turns_12 rfl rfl ?_
    refine X_iload_n d_Model_turns_13 rfl rfl ?_
    refine X_iload_n d_Model_turns_14 rfl rfl ?_
    refine X_callV (v := .int (kBuilds ((hSpinN S speed (hSide n) k f) 0) (S 0 speed 1 (hSpinN S speed (hSide n) k f)) speed ((hSpinN S speed (hSide n) k f) 1))) (rest := []) (c_Model_buildsOf l G nn (by omega) I ln i S hK hi (hSpinN S speed (hSide n) k f) (mRec_spinN hf _ _ _ _) e speed hs (by rw [hSpinN_1]; exact hm)) lk_Model_buildsOf ml_Model_167 (xm_obj (show xYf 59 = some sModel from rfl)) rfl rfl (Nat.le_of_ble_eq_true rfl) (xRok (d' := d - 1) (by omega) (by decide)) ⟨Nat.le_refl _, Nat.le_refl _⟩ d_Model_turns_15 rfl ?_
    refine X_istore d_Model_turns_18 (by decide) [1, 2, 3, 4, 5, 0] (L' := [(0, .ref (xg G 59)), (1, .int (nI i)), (2, .int n), (3, .int speed), (4, .int (nI k)), (5, .int (kBuilds ((hSpinN S speed (hSide n) k f) 0) (S 0 speed 1 (hSpinN S speed (hSide n) k f)) speed ((hSpinN S speed (hSide n) k f) 1)))]) rfl ?_
    refine X_aload_n d_Model_turns_20 rfl rfl ?_
    refine X_iload_n d_Model_turns_21 rfl rfl ?_
    refine X_if_ge (tgt := 35) d_Model_turns_22 (by decide) (fun c_2 => ?_) (fun c_2 => ?_)
    ·
      refine X_aload_n d_Model_turns_35 rfl rfl ?_
      refine X_getI (v := (hSpinN S speed (hSide n) k f) 2) fg_Model_140 (show xYf 59 = some sModel from rfl) rfl ((congrFun (xup_s _ _ _) _).trans (sc_29 _ _ _)) d_Model_turns_36 ?_
      refine X_iload d_Model_turns_39 rfl ?_
      refine X_iadd d_Model_turns_41 ?_
      refine X_sipush (v := -9999) d_Model_turns_42 rfl ?_
      refine X_sipush (v := 9999) d_Model_turns_45 rfl ?_
      refine X_callS (v := .int (xbd (((hSpinN S speed (hSide n) k f) 2) + (kBuilds ((hSpinN S speed (hSide n) k f) 0) (S 0 speed 1 (hSpinN S speed (hSide n) k f)) speed ((hSpinN S speed (hSide n) k f) 1))) (-9999) 9999)) (rest := [.ref (xg G 59)]) (c_Model_within l G nn _ (by omega) (((hSpinN S speed (hSide n) k f) 2) + (kBuilds ((hSpinN S speed (hSide n) k f) 0) (S 0 speed 1 (hSpinN S speed (hSide n) k f)) speed ((hSpinN S speed (hSide n) k f) 1))) (-9999) 9999) lk_Model_within ml_Model_146 rfl (Nat.le_of_ble_eq_true rfl) (xRok (d' := d - 1) (by omega) (by decide)) ⟨Nat.le_refl _, Nat.le_refl _⟩ d_Model_turns_48 rfl ?_
      refine X_putI fp_Model_140 (show xYf 59 = some sModel from rfl) rfl d_Model_turns_51 ?_
      rw [xw_rec]
      rw [scs_29]
      refine X_aload_n d_Model_turns_54 rfl rfl ?_
      refine X_iload_n d_Model_turns_55 rfl rfl ?_
      refine X_iconst (v := 1) d_Model_turns_56 rfl ?_
      refine X_callVv (rest := []) (c_Model_fade l G nn (by omega) I ln i S hK hi (xup (hSpinN S speed (hSide n) k f) 2 (xbd (((hSpinN S speed (hSide n) k f) 2) + (kBuilds ((hSpinN S speed (hSide n) k f) 0) (S 0 speed 1 (hSpinN S speed (hSide n) k f)) speed ((hSpinN S speed (hSide n) k f) 1))) (-9999) 9999)) (mRec_up (mRec_spinN hf _ _ _ _) (Or.inl rfl) _) e 1) lk_Model_fade ml_Model_170 (xm_obj (show xYf 59 = some sModel from rfl)) rfl rfl (Nat.le_of_ble_eq_true rfl) (xRok (d' := d - 1) (by omega) (by decide)) ⟨Nat.le_refl _, Nat.le_refl _⟩ d_Model_turns_57 rfl ?_
      refine X_iinc d_Model_turns_60 rfl (v := (nI k) + 1) rfl (by decide) [1, 2, 3, 4, 0, 5] (L' := [(0, .ref (xg G 59)), (1, .int (nI i)), (2, .int n), (3, .int speed), (4, .int ((nI k) + 1)), (5, .int (kBuilds ((hSpinN S speed (hSide n) k f) 0) (S 0 speed 1 (hSpinN S speed (hSide n) k f)) speed ((hSpinN S speed (hSide n) k f) 1)))]) rfl ?_
      refine X_goto (tgt := 3) d_Model_turns_63 (by decide) ?_
      have hlt : k < N := nI_more hk (by omega) c_1
      refine X_sub [0, 1, 2, 3, 4] (L' := [(0, .ref (xg G 59)), (1, .int (nI i)), (2, .int n), (3, .int speed), (4, .int ((nI k) + 1))]) rfl ?_
      have hsd := hSide_p (Int32.not_lt.mpr c_2) (fun z => by rw [z] at hN; exact absurd ((nI_eq (a := 0) (b := N) (by decide) (by omega)).mp hN) (by omega))
      have hv : (hSpinN S speed (hSide n) k f) 2 + hSide n * kBuilds ((hSpinN S speed (hSide n) k f) 0) (S 0 speed 1 (hSpinN S speed (hSide n) k f)) speed ((hSpinN S speed (hSide n) k f) 1) = (hSpinN S speed (hSide n) k f) 2 + kBuilds ((hSpinN S speed (hSide n) k f) 0) (S 0 speed 1 (hSpinN S speed (hSide n) k f)) speed ((hSpinN S speed (hSide n) k f) 1) := by rw [hsd]; grind
      have key := ih hlt
      unfold Q_Model_turns at key
      rw [show hSpinN S speed (hSide n) (k + 1) f = hFade S 1 (xup (hSpinN S speed (hSide n) k f) 2 (xbd ((hSpinN S speed (hSide n) k f) 2 + hSide n * kBuilds ((hSpinN S speed (hSide n) k f) 0) (S 0 speed 1 (hSpinN S speed (hSide n) k f)) speed ((hSpinN S speed (hSide n) k f) 1)) (-9999) 9999)) from rfl, hv] at key
      rw [nI_1]
      exact key
    ·
      refine X_aload_n d_Model_turns_25 rfl rfl ?_
      refine X_getI (v := (hSpinN S speed (hSide n) k f) 2) fg_Model_140 (show xYf 59 = some sModel from rfl) rfl ((congrFun (xup_s _ _ _) _).trans (sc_29 _ _ _)) d_Model_turns_26 ?_
      refine X_iload d_Model_turns_29 rfl ?_
      refine X_isub d_Model_turns_31 ?_
      refine X_goto (tgt := 42) d_Model_turns_32 (by decide) ?_
      refine X_sipush (v := -9999) d_Model_turns_42 rfl ?_
      refine X_sipush (v := 9999) d_Model_turns_45 rfl ?_
      refine X_callS (v := .int (xbd (((hSpinN S speed (hSide n) k f) 2) - (kBuilds ((hSpinN S speed (hSide n) k f) 0) (S 0 speed 1 (hSpinN S speed (hSide n) k f)) speed ((hSpinN S speed (hSide n) k f) 1))) (-9999) 9999)) (rest := [.ref (xg G 59)]) (c_Model_within l G nn _ (by omega) (((hSpinN S speed (hSide n) k f) 2) - (kBuilds ((hSpinN S speed (hSide n) k f) 0) (S 0 speed 1 (hSpinN S speed (hSide n) k f)) speed ((hSpinN S speed (hSide n) k f) 1))) (-9999) 9999) lk_Model_within ml_Model_146 rfl (Nat.le_of_ble_eq_true rfl) (xRok (d' := d - 1) (by omega) (by decide)) ⟨Nat.le_refl _, Nat.le_refl _⟩ d_Model_turns_48 rfl ?_
      refine X_putI fp_Model_140 (show xYf 59 = some sModel from rfl) rfl d_Model_turns_51 ?_
      rw [xw_rec]
      rw [scs_29]
      refine X_aload_n d_Model_turns_54 rfl rfl ?_
      refine X_iload_n d_Model_turns_55 rfl rfl ?_
      refine X_iconst (v := 1) d_Model_turns_56 rfl ?_
      refine X_callVv (rest := []) (c_Model_fade l G nn (by omega) I ln i S hK hi (xup (hSpinN S speed (hSide n) k f) 2 (xbd (((hSpinN S speed (hSide n) k f) 2) - (kBuilds ((hSpinN S speed (hSide n) k f) 0) (S 0 speed 1 (hSpinN S speed (hSide n) k f)) speed ((hSpinN S speed (hSide n) k f) 1))) (-9999) 9999)) (mRec_up (mRec_spinN hf _ _ _ _) (Or.inl rfl) _) e 1) lk_Model_fade ml_Model_170 (xm_obj (show xYf 59 = some sModel from rfl)) rfl rfl (Nat.le_of_ble_eq_true rfl) (xRok (d' := d - 1) (by omega) (by decide)) ⟨Nat.le_refl _, Nat.le_refl _⟩ d_Model_turns_57 rfl ?_
      refine X_iinc d_Model_turns_60 rfl (v := (nI k) + 1) rfl (by decide) [1, 2, 3, 4, 0, 5] (L' := [(0, .ref (xg G 59)), (1, .int (nI i)), (2, .int n), (3, .int speed), (4, .int ((nI k) + 1)), (5, .int (kBuilds ((hSpinN S speed (hSide n) k f) 0) (S 0 speed 1 (hSpinN S speed (hSide n) k f)) speed ((hSpinN S speed (hSide n) k f) 1)))]) rfl ?_
      refine X_goto (tgt := 3) d_Model_turns_63 (by decide) ?_
      have hlt : k < N := nI_more hk (by omega) c_1
      refine X_sub [0, 1, 2, 3, 4] (L' := [(0, .ref (xg G 59)), (1, .int (nI i)), (2, .int n), (3, .int speed), (4, .int ((nI k) + 1))]) rfl ?_
      have hsd := hSide_m (Int32.not_le.mp c_2)
      have hv : (hSpinN S speed (hSide n) k f) 2 + hSide n * kBuilds ((hSpinN S speed (hSide n) k f) 0) (S 0 speed 1 (hSpinN S speed (hSide n) k f)) speed ((hSpinN S speed (hSide n) k f) 1) = (hSpinN S speed (hSide n) k f) 2 - kBuilds ((hSpinN S speed (hSide n) k f) 0) (S 0 speed 1 (hSpinN S speed (hSide n) k f)) speed ((hSpinN S speed (hSide n) k f) 1) := by rw [hsd]; grind
      have key := ih hlt
      unfold Q_Model_turns at key
      rw [show hSpinN S speed (hSide n) (k + 1) f = hFade S 1 (xup (hSpinN S speed (hSide n) k f) 2 (xbd ((hSpinN S speed (hSide n) k f) 2 + hSide n * kBuilds ((hSpinN S speed (hSide n) k f) 0) (S 0 speed 1 (hSpinN S speed (hSide n) k f)) speed ((hSpinN S speed (hSide n) k f) 1)) (-9999) 9999)) from rfl, hv] at key
      rw [nI_1]
      exact key
theorem c_Model_turns (l : Launch) (G : xG) {d : Nat} (nn : Nat) (hd : 6 ≤ d) (I : xI) (ln i : Nat) (S : xSay) (hK : mK I ln S) (hi : i < 5) (f : Nat → Int32) (hf : mRec I i f) (e : Int32) (n speed : Int32) (hs : ¬ speed < 0 ∧ speed ≤ 9) (hm : ¬ f 1 < 0 ∧ f 1 ≤ 9) (hn : ¬ xabs n < 0) (hn2 : xabs n ≤ 100) : XM l G d y_Model_turns b_Model_turns 6 (none) 0 0 xK0 [.ref (xg G 59), .int (nI i), .int n, .int speed] nn (xm G xYf (xup I 59 (sc (I 59) f e))) (none) nn (xm G xYf (xup I 59 (sc (I 59) (hSpin S n speed f) e))) := by
  refine XM.of (by decide) (Nat.le_of_ble_eq_true rfl) (L := [(0, .ref (xg G 59)), (1, .int (nI i)), (2, .int n), (3, .int speed)]) rfl ?_
  refine X_iconst (v := 0) d_Model_turns_0 rfl ?_
  refine X_istore d_Model_turns_1 (by decide) [1, 2, 3, 4, 0] (L' := [(0, .ref (xg G 59)), (1, .int (nI i)), (2, .int n), (3, .int speed), (4, .int 0)]) rfl ?_
  obtain ⟨N, hN1, hN⟩ := nI_of2 (n := 100) rfl hn hn2
  have hx := xloop (T := N) (fun k hk ih => w_Model_turns l G nn (by omega) I ln i S hK hi f hf e n speed hs hm N hN (by omega) k hk ih) 0 (Nat.zero_le _)
  unfold Q_Model_turns at hx
  rw [hSpin, hN, nI_cl (show N < 2 ^ 31 by omega)]
  exact hx
def Q_Model_waits (l : Launch) (G : xG) (d nn : Nat) (I : xI) (i : Nat) (S : xSay) (eyes : Int32) (f : Nat → Int32) (e : Int32) (N k : Nat) : Prop := XW l G (xR d 0 0) y_Model_waits b_Model_waits 5 none xK0 (xZ G nn (xm G xYf (xup I 59 (sc (I 59) (hLing S eyes N f) e))) none 0 0) nn (xm G xYf (xup I 59 (sc (I 59) (hLing S eyes k f) e))) 0 0 3 [(0, .ref (xg G 59)), (1, .int (nI i)), (2, .int (nI N)), (3, .int eyes), (4, .int (nI k))] []
theorem w_Model_waits (l : Launch) (G : xG) {d : Nat} (nn : Nat) (hd : 6 ≤ d) (I : xI) (ln i : Nat) (S : xSay) (hK : mK I ln S) (hi : i < 5) (f : Nat → Int32) (hf : mRec I i f) (e : Int32) (eyes : Int32) (N : Nat) (hN2 : N < 1000) (k : Nat) (hk : k ≤ N) (ih : k < N → Q_Model_waits l G d nn I i S eyes f e N (k + 1)) : Q_Model_waits l G d nn I i S eyes f e N k := by
  unfold Q_Model_waits
  refine X_iload d_Model_waits_3 rfl ?_
  refine X_iload_n d_Model_waits_5 rfl rfl ?_
  refine X_icmp_ge (tgt := 21) d_Model_waits_6 (by decide) (fun c_1 => ?_) (fun c_1 => ?_)
  ·
    have hz : k = N := nI_done hk (by omega) c_1
    subst hz
    exact X_vret rfl rfl (xle_rf _) d_Model_waits_21
  ·
    refine X_aload_n d_Model_waits_9 rfl rfl ?_
    refine X_iload_n d_Model_waits_10 rfl rfl ?_
    refine X_iload_n d_Model_waits_11 rfl rfl ?_
    refine X_callVv (rest := []) (c_Model_fade l G nn (by omega) I ln i S hK hi (hLing S eyes k f) (mRec_ling hf _ _ _) e eyes) lk_Model_fade ml_Model_170 (xm_obj (show xYf 59 = some sModel from rfl)) rfl rfl (Nat.le_of_ble_eq_true rfl) (xRok (d' := d - 1) (by omega) (by decide)) ⟨Nat.le_refl _, Nat.le_refl _⟩ d_Model_waits_12 rfl ?_
    refine X_iinc d_Model_waits_15 rfl (v := (nI k) + 1) rfl (by decide) [1, 2, 3, 4, 0] (L' := [(0, .ref (xg G 59)), (1, .int (nI i)), (2, .int (nI N)), (3, .int eyes), (4, .int ((nI k) + 1))]) rfl ?_
    refine X_goto (tgt := 3) d_Model_waits_18 (by decide) ?_
    have hlt : k < N := nI_more hk (by omega) c_1
    have key := ih hlt
    unfold Q_Model_waits at key
    rw [nI_1]
    exact key
theorem c_Model_waits (l : Launch) (G : xG) {d : Nat} (nn : Nat) (hd : 6 ≤ d) (I : xI) (ln i : Nat) (S : xSay) (hK : mK I ln S) (hi : i < 5) (f : Nat → Int32) (hf : mRec I i f) (e : Int32) (s eyes : Int32) (h0 : ¬ s < 0) (h1 : s ≤ 100) : XM l G d y_Model_waits b_Model_waits 5 (none) 0 0 xK0 [.ref (xg G 59), .int (nI i), .int s, .int eyes] nn (xm G xYf (xup I 59 (sc (I 59) f e))) (none) nn (xm G xYf (xup I 59 (sc (I 59) (hLing S eyes s.toNatClampNeg f) e))) := by
  obtain ⟨N, hN1, rfl⟩ := nI_of2 (n := 100) rfl h0 h1
  refine XM.of (by decide) (Nat.le_of_ble_eq_true rfl) (L := [(0, .ref (xg G 59)), (1, .int (nI i)), (2, .int (nI N)), (3, .int eyes)]) rfl ?_
  refine X_iconst (v := 0) d_Model_waits_0 rfl ?_
  refine X_istore d_Model_waits_1 (by decide) [1, 2, 3, 4, 0] (L' := [(0, .ref (xg G 59)), (1, .int (nI i)), (2, .int (nI N)), (3, .int eyes), (4, .int 0)]) rfl ?_
  have hx := xloop (T := N) (fun k hk ih => w_Model_waits l G nn (by omega) I ln i S hK hi f hf e eyes N (by omega) k hk ih) 0 (Nat.zero_le _)
  unfold Q_Model_waits at hx
  rw [nI_cl (show N < 2 ^ 31 by omega)]
  exact hx
