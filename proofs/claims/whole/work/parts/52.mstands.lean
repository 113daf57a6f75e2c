theorem xabs_n {k : Nat} (hk : k < 2 ^ 31) : xabs (nI k) = nI k := if_neg (nI_pos hk)
theorem hSpin_n {S : xSay} {sp : Int32} {f : Nat → Int32} {k : Nat} (h1 : 1 ≤ k) (hk : k < 1000) : hSpin S (nI k) sp f = hSpinN S sp 1 k f := by
  rw [hSpin, xabs_n (by omega), nI_cl (by omega), hSide, if_pos (show (0 : Int32) < nI k from (show nI 0 < nI k from nI_lt (by omega) (by omega)))]
theorem mIf {α : Type} {p : Prop} [Decidable p] {a b : α} (h : p → a = b) : (if p then a else b) = b := by
  by_cases z : p
  · rw [if_pos z, h z]
  · rw [if_neg z]
def Q_Model_stands (l : Launch) (G : xG) (d nn : Nat) (I : xI) (i : Nat) (S : xSay) (speed : Int32) (k : Nat) (most : Int32) (f : Nat → Int32) (e : Int32) : Prop := XW l G (xR d 0 0) y_Model_stands b_Model_stands 5 (some .int) xK0 (xZ G nn (xm G xYf (xup I 59 (sc (I 59) (if k = 41 then f else (hSpinN S speed 1 40 (hStd (mRow I i)))) (if k = 41 then e else -1)))) (some (.int (sStands S speed (41 - k) k most (hSpinN S speed 1 (k - 1) (hStd (mRow I i)))))) 0 0) nn (xm G xYf (xup I 59 (sc (I 59) f e))) 0 0 29 [(0, .ref (xg G 59)), (1, .int (nI i)), (2, .int speed), (3, .int most), (4, .int (nI k))] []
theorem w_Model_stands (l : Launch) (G : xG) {d : Nat} (nn : Nat) (hd : 7 ≤ d) (I : xI) (ln i : Nat) (S : xSay) (hK : mK I ln S) (hi : i < 5) (speed : Int32) (hs : ¬ speed < 0 ∧ speed ≤ 9) (hm : ¬ I 61 i < 0 ∧ I 61 i ≤ 9) (k : Nat) (hk : k ≤ 41) (ih : k < 41 → 1 ≤ k + 1 → ∀ most f e, Q_Model_stands l G d nn I i S speed (k + 1) most f e) (h1 : 1 ≤ k) (most : Int32) (f : Nat → Int32) (e : Int32) : Q_Model_stands l G d nn I i S speed k most f e := by
  unfold Q_Model_stands
  have hr := mRec_std (mRec_row I i)
  refine X_iload d_Model_stands_29 rfl ?_
  refine X_bipush (v := 40) d_Model_stands_31 rfl ?_
  refine X_icmp_gt (tgt := 77) d_Model_stands_33 (by decide) (fun c_1 => ?_) (fun c_1 => ?_)
  ·
    have hz : k = 41 := by have := (nI_ltI (a := 40) (by decide) (by omega)).mp c_1; omega
    subst hz
    refine X_iload_n d_Model_stands_77 rfl rfl ?_
    exact X_iret rfl rfl (xle_rf _) d_Model_stands_78
  ·
    have hlt : k < 41 := Nat.lt_of_not_le (fun z => c_1 (show nI 40 < nI k from nI_lt (by omega) (by omega)))
    have hz : 41 - k = (41 - (k + 1)) + 1 := by omega
    refine X_aload_n d_Model_stands_36 rfl rfl ?_
    refine X_iload_n d_Model_stands_37 rfl rfl ?_
    refine X_callVv (rest := []) (by have q := c_Model_begins l G nn (d := d - 1) (by omega) I i (by omega) f e; exact q) lk_Model_begins ml_Model_212 (xm_obj (show xYf 59 = some sModel from rfl)) rfl rfl (Nat.le_of_ble_eq_true rfl) (xRok (d' := d - 1) (by omega) (by decide)) ⟨Nat.le_refl _, Nat.le_refl _⟩ d_Model_stands_38 rfl ?_
    refine X_aload_n d_Model_stands_41 rfl rfl ?_
    refine X_iload_n d_Model_stands_42 rfl rfl ?_
    refine X_iload d_Model_stands_43 rfl ?_
    refine X_iload_n d_Model_stands_45 rfl rfl ?_
    refine X_callVv (rest := []) (c_Model_turns l G nn (by omega) I ln i S hK (by omega) (hStd (mRow I i)) hr (-1) (nI k) speed hs hm (by rw [xabs_n (by omega)]; exact nI_pos (by omega)) (by rw [xabs_n (by omega)]; exact (nI_leI (b := 100) (by omega) (by decide)).mpr (by omega))) lk_Model_turns ml_Model_199 (xm_obj (show xYf 59 = some sModel from rfl)) rfl rfl (Nat.le_of_ble_eq_true rfl) (xRok (d' := d - 1) (by omega) (by decide)) ⟨Nat.le_refl _, Nat.le_refl _⟩ d_Model_stands_46 rfl ?_
    refine X_aload_n d_Model_stands_49 rfl rfl ?_
    refine X_getI (v := (hSpin S (nI k) speed (hStd (mRow I i))) 2) fg_Model_140 (show xYf 59 = some sModel from rfl) rfl ((congrFun (xup_s _ _ _) _).trans (sc_29 _ _ _)) d_Model_stands_50 ?_
    refine X_callS (v := .int (xabs ((hSpin S (nI k) speed (hStd (mRow I i))) 2))) (rest := []) (c_Model_size0 l G nn _ (by omega) ((hSpin S (nI k) speed (hStd (mRow I i))) 2)) lk_Model_size0 ml_Model_164 rfl (Nat.le_of_ble_eq_true rfl) (xRok (d' := d - 1) (by omega) (by decide)) ⟨Nat.le_refl _, Nat.le_refl _⟩ d_Model_stands_53 rfl ?_
    refine X_aload_n d_Model_stands_56 rfl rfl ?_
    refine X_iload_n d_Model_stands_57 rfl rfl ?_
    refine X_callV (v := .int (kFalls ((hSpin S (nI k) speed (hStd (mRow I i))) 0) ((hSpin S (nI k) speed (hStd (mRow I i))) 1))) (rest := [.int (xabs ((hSpin S (nI k) speed (hStd (mRow I i))) 2))]) (c_Model_fallsFrom l G nn (by omega) I ln i S hK (by omega) (hSpin S (nI k) speed (hStd (mRow I i))) (mRec_spinN hr _ _ _ _) (-1) ) lk_Model_fallsFrom ml_Model_158 (xm_obj (show xYf 59 = some sModel from rfl)) rfl rfl (Nat.le_of_ble_eq_true rfl) (xRok (d' := d - 1) (by omega) (by decide)) ⟨Nat.le_refl _, Nat.le_refl _⟩ d_Model_stands_58 rfl ?_
    refine X_icmp_ge (tgt := 69) d_Model_stands_61 (by decide) (fun c_2 => ?_) (fun c_2 => ?_)
    ·
      refine X_iload_n d_Model_stands_69 rfl rfl ?_
      refine X_istore_n d_Model_stands_70 rfl (by decide) [1, 2, 3, 0, 4] (L' := [(0, .ref (xg G 59)), (1, .int (nI i)), (2, .int speed), (3, .int most), (4, .int (nI k))]) rfl ?_
      refine X_iinc d_Model_stands_71 rfl (v := (nI k) + 1) rfl (by decide) [1, 2, 3, 4, 0] (L' := [(0, .ref (xg G 59)), (1, .int (nI i)), (2, .int speed), (3, .int most), (4, .int ((nI k) + 1))]) rfl ?_
      refine X_goto (tgt := 29) d_Model_stands_74 (by decide) ?_
      have es : hSpin S (nI k) speed (hStd (mRow I i)) = hSpinN S speed 1 k (hStd (mRow I i)) := hSpin_n h1 (by omega)
      have e1 : hSpin1 S speed 1 (hSpinN S speed 1 (k - 1) (hStd (mRow I i))) = hSpinN S speed 1 k (hStd (mRow I i)) := by rw [show k = (k - 1) + 1 by omega]; rfl
      have key := ih hlt (by omega) most (hSpinN S speed 1 k (hStd (mRow I i))) (-1)
      unfold Q_Model_stands at key
      have e2 : (if k + 1 = 41 then hSpinN S speed 1 k (hStd (mRow I i)) else (hSpinN S speed 1 40 (hStd (mRow I i)))) = (hSpinN S speed 1 40 (hStd (mRow I i))) := mIf (fun z => by rw [show k = 40 by omega])
      have e3 : (if k + 1 = 41 then (-1 : Int32) else -1) = -1 := mIf (fun _ => rfl)
      rw [e2, e3, Nat.add_sub_cancel] at key
      rw [es] at c_2
      have hmu : hMust (hSpinN S speed 1 k (hStd (mRow I i))) = true := decide_eq_true c_2
      rw [if_neg (show ¬ k = 41 by omega), if_neg (show ¬ k = 41 by omega), hz, sStands, e1, if_pos hmu, es, nI_1]
      exact key
    ·
      refine X_iload d_Model_stands_64 rfl ?_
      refine X_goto (tgt := 70) d_Model_stands_66 (by decide) ?_
      refine X_istore_n d_Model_stands_70 rfl (by decide) [1, 2, 3, 0, 4] (L' := [(0, .ref (xg G 59)), (1, .int (nI i)), (2, .int speed), (3, .int (nI k)), (4, .int (nI k))]) rfl ?_
      refine X_iinc d_Model_stands_71 rfl (v := (nI k) + 1) rfl (by decide) [1, 2, 3, 4, 0] (L' := [(0, .ref (xg G 59)), (1, .int (nI i)), (2, .int speed), (3, .int (nI k)), (4, .int ((nI k) + 1))]) rfl ?_
      refine X_goto (tgt := 29) d_Model_stands_74 (by decide) ?_
      have es : hSpin S (nI k) speed (hStd (mRow I i)) = hSpinN S speed 1 k (hStd (mRow I i)) := hSpin_n h1 (by omega)
      have e1 : hSpin1 S speed 1 (hSpinN S speed 1 (k - 1) (hStd (mRow I i))) = hSpinN S speed 1 k (hStd (mRow I i)) := by rw [show k = (k - 1) + 1 by omega]; rfl
      have key := ih hlt (by omega) (nI k) (hSpinN S speed 1 k (hStd (mRow I i))) (-1)
      unfold Q_Model_stands at key
      have e2 : (if k + 1 = 41 then hSpinN S speed 1 k (hStd (mRow I i)) else (hSpinN S speed 1 40 (hStd (mRow I i)))) = (hSpinN S speed 1 40 (hStd (mRow I i))) := mIf (fun z => by rw [show k = 40 by omega])
      have e3 : (if k + 1 = 41 then (-1 : Int32) else -1) = -1 := mIf (fun _ => rfl)
      rw [e2, e3, Nat.add_sub_cancel] at key
      rw [es] at c_2
      have hmu : ¬ hMust (hSpinN S speed 1 k (hStd (mRow I i))) = true := fun z => absurd (of_decide_eq_true z) (Int32.not_le.mpr (Int32.not_le.mp c_2))
      rw [if_neg (show ¬ k = 41 by omega), if_neg (show ¬ k = 41 by omega), hz, sStands, e1, if_neg hmu, es, nI_1]
      exact key
theorem c_Model_stands (l : Launch) (G : xG) {d : Nat} (nn : Nat) (hd : 8 ≤ d) (I : xI) (hc tc ln : Nat) (SS : Nat → xSay) (hK0 : mOK I hc tc ln SS) (h speed : Int32) : XM l G d y_Model_stands b_Model_stands 5 (some .int) 0 0 xK0 [.ref (xg G 59), .int h, .int speed] nn (xm G xYf I) (some (.int (aStands hc (SS ln) (mRow I) h speed))) nn (xm G xYf (if xin h 0 (nI hc - 1) = true ∧ xin speed 1 9 = true then xup I 59 (sc (I 59) (hSpinN (SS ln) speed 1 40 (hStd (mRow I h.toNatClampNeg))) (-1)) else I)) := by
  obtain ⟨⟨h0, h5⟩, ⟨h8, h6⟩, ⟨h9, hl⟩, hTs, hR⟩ := id hK0
  have hK : mK I ln (SS ln) := ⟨hTs ln hl, h9, by omega⟩
  generalize hSS : SS ln = S at hK ⊢
  refine XM.of (by decide) (Nat.le_of_ble_eq_true rfl) (L := [(0, .ref (xg G 59)), (1, .int h), (2, .int speed)]) rfl ?_
  refine X_aload_n d_Model_stands_0 rfl rfl ?_
  refine X_iload_n d_Model_stands_1 rfl rfl ?_
  refine X_callV (v := .int (xb (xin h 0 (nI hc - 1)))) (rest := []) (c_Model_isHead l G nn (by omega) I hc tc ln SS hK0 h) lk_Model_isHead ml_Model_149 (xm_obj (show xYf 59 = some sModel from rfl)) rfl rfl (Nat.le_of_ble_eq_true rfl) (xRok (d' := d - 1) (by omega) (by decide)) ⟨Nat.le_refl _, Nat.le_refl _⟩ d_Model_stands_2 rfl ?_
  refine X_ifb_ne (tgt := 11) d_Model_stands_5 (by decide) (fun c_1 => ?_) (fun c_1 => ?_)
  ·
    obtain ⟨i, hi, rfl⟩ := cHead h5 c_1
    refine X_iload_n d_Model_stands_11 rfl rfl ?_
    refine X_iconst (v := 1) d_Model_stands_12 rfl ?_
    refine X_bipush (v := 9) d_Model_stands_13 rfl ?_
    refine X_callS (v := .int (xb (xin speed 1 9))) (rest := []) (c_Model_in l G nn _ (by omega) speed 1 9) lk_Model_in ml_Model_66 rfl (Nat.le_of_ble_eq_true rfl) (xRok (d' := d - 1) (by omega) (by decide)) ⟨Nat.le_refl _, Nat.le_refl _⟩ d_Model_stands_15 rfl ?_
    refine X_ifb_ne (tgt := 24) d_Model_stands_18 (by decide) (fun c_2 => ?_) (fun c_2 => ?_)
    ·
      refine X_iconst (v := 0) d_Model_stands_24 rfl ?_
      refine X_istore_n d_Model_stands_25 rfl (by decide) [1, 2, 3, 0] (L' := [(0, .ref (xg G 59)), (1, .int (nI i)), (2, .int speed), (3, .int 0)]) rfl ?_
      refine X_iconst (v := 1) d_Model_stands_26 rfl ?_
      refine X_istore d_Model_stands_27 (by decide) [1, 2, 3, 4, 0] (L' := [(0, .ref (xg G 59)), (1, .int (nI i)), (2, .int speed), (3, .int 0), (4, .int 1)]) rfl ?_
      have hx := xloop (Q := fun k => 1 ≤ k → ∀ most f e, Q_Model_stands l G d nn I i S speed k most f e) (T := 41) (fun k hk ih h1 most f e => w_Model_stands l G nn (by omega) I ln i S hK (by omega) speed (xin_sp c_2) (hR i (by omega)).1 k hk ih h1 most f e) 1 (by decide) (by decide) 0 (mCur I) (I 59 33)
      unfold Q_Model_stands at hx
      have e1 : aStands hc S (mRow I) (nI i) speed = sStands S speed (41 - 1) 1 0 (hSpinN S speed 1 (1 - 1) (hStd (mRow I i))) := by rw [aStands, if_pos c_1, if_pos c_2, nI_cl (show i < 2 ^ 31 by omega)]; rfl
      rw [sc_self, if_neg (by decide), if_neg (by decide)] at hx
      rw [e1, if_pos ⟨c_1, c_2⟩, nI_cl (show i < 2 ^ 31 by omega)]
      exact hx
    ·
      refine X_ldc cs_Model_157 d_Model_stands_21 ?_
      exact X_iret rfl (congrArg (fun q => some (Value.int q)) (by subst hSS; first | (simp [aStands, c_1, nI_cl (show i < 2 ^ 31 by omega), c_2, xl_1_0, xl_1_1, xl_2_0, xl_2_1, xl_2_2, xl_3_0, xl_3_1, xl_3_2, xl_3_3]; done) | (exfalso; simp_all; done) | (clear hTs hR hK0 hK; simp_all [aStands, nI_cl (show i < 2 ^ 31 by omega)]; done))) (xle_of (congrArg (xm G xYf) (by first | (subst hSS; simp [c_1, nI_cl (show i < 2 ^ 31 by omega), c_2, xl_3_0, xl_3_1, xl_3_2, xl_3_3, xl_2_0, xl_2_1, xl_2_2, xl_1_0, xl_1_1]; done) | (exfalso; simp_all; done)))) d_Model_stands_23
  ·
    refine X_ldc cs_Model_156 d_Model_stands_8 ?_
    exact X_iret rfl (congrArg (fun q => some (Value.int q)) (by subst hSS; first | (simp [aStands, c_1, xl_1_0, xl_1_1, xl_2_0, xl_2_1, xl_2_2, xl_3_0, xl_3_1, xl_3_2, xl_3_3]; done) | (exfalso; simp_all; done) | (clear hTs hR hK0 hK; simp_all [aStands]; done))) (xle_of (congrArg (xm G xYf) (by first | (subst hSS; simp [c_1, xl_3_0, xl_3_1, xl_3_2, xl_3_3, xl_2_0, xl_2_1, xl_2_2, xl_1_0, xl_1_1]; done) | (exfalso; simp_all; done)))) d_Model_stands_10
