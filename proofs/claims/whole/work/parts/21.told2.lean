theorem xle_345 {G : xG} {I J : xI} (h : ∀ k, k ≠ 3 → k ≠ 4 → k ≠ 5 → J k = I k) : xle (xm G (xup (xup (xup xYf 3 (some sHead)) 4 (some sHead)) 5 (some (sInts 81))) J) (xm G xYf I) := by
  refine xle_fg fun k => ?_
  by_cases hk : k = 3
  · subst hk; exact Or.inr (Or.inr (Or.inl ⟨rfl, rfl⟩))
  · by_cases hk4 : k = 4
    · subst hk4; exact Or.inr (Or.inr (Or.inl ⟨rfl, rfl⟩))
    · by_cases hk5 : k = 5
      · subst hk5; exact Or.inr (Or.inl ⟨81, xup_s _ _ _, by decide, rfl⟩)
      · exact Or.inl ⟨((xup_n _ _ hk5).trans ((xup_n _ _ hk4).trans (xup_n _ _ hk))).symm, h k hk hk4 hk5⟩
theorem c_X_judge (l : Launch) (G : xG) {d : Nat} (nn : Nat) (I : xI) (hd : 11 ≤ d) (hc tc ln : Nat) (S : Nat → xSay) (hK : cOK I hc tc ln S) (sz : Nat → Nat) (hsz : sOK I sz) (s h n sp : Int32) : XM l G d y_X_judge b_X_judge 6 (some .int) 0 0 xK0 [.ref (xg G 0), .int s, .int h, .int n, .int sp] nn (xm G xYf I) (some (.int (aJudge hc (S ln) (fun i => I (17 + 2 * i)) (fun q => I (51 + 2 * q) 1) sz (fun q => I (51 + 2 * q + 1)) s h n sp))) nn (xm G xYf (I)) := by
  obtain ⟨⟨h10, h5⟩, ⟨h11, h6⟩, ⟨h12, hl⟩, hTs, hR⟩ := id hK
  refine XM.of (by decide) (Nat.le_of_ble_eq_true rfl) (L := [(0, .ref (xg G 0)), (1, .int s), (2, .int h), (3, .int n), (4, .int sp)]) rfl ?_
  refine X_aload_n d_X_judge_0 rfl rfl ?_
  refine X_iload_n d_X_judge_1 rfl rfl ?_
  refine X_iload_n d_X_judge_2 rfl rfl ?_
  refine X_callV (v := .int (rTold hc (fun q => I (51 + 2 * q) 1) s h)) (rest := []) (c_X_refusalOfTold l G nn I (by omega) hc tc ln S hK s h) lk_X_refusalOfTold ml_X_253 (xm_obj (y0 xYok_f)) rfl rfl (Nat.le_of_ble_eq_true rfl) (xRok (d' := d - 1) (by omega) (by decide)) ⟨Nat.le_refl _, Nat.le_refl _⟩ d_X_judge_3 rfl ?_
  refine X_istore d_X_judge_6 (by decide) [1, 2, 3, 4, 5, 0] (L' := [(0, .ref (xg G 0)), (1, .int s), (2, .int h), (3, .int n), (4, .int sp), (5, .int (rTold hc (fun q => I (51 + 2 * q) 1) s h))]) rfl ?_
  refine X_iload d_X_judge_8 rfl ?_
  refine X_if_eq (tgt := 16) d_X_judge_10 (by decide) (fun c_1 => ?_) (fun c_1 => ?_)
  ·
    obtain ⟨q, i, hq, hi, rfl, rfl, hsq⟩ := rTold_ok h5 c_1
    refine X_knowH (a := 3) rfl (fun f3 hf3 => ?_)
    refine X_iload_n d_X_judge_16 rfl rfl ?_
    refine X_callS (v := .int (xb (xin n (-40) 40))) (rest := []) (c_X_isTurns l G nn _ (by omega) n) lk_X_isTurns ml_X_169 rfl (Nat.le_of_ble_eq_true rfl) (xRok (d' := d - 1) (by omega) (by decide)) ⟨Nat.le_refl _, Nat.le_refl _⟩ d_X_judge_17 rfl ?_
    refine X_ifb_eq (tgt := 31) d_X_judge_20 (by decide) (fun c_2 => ?_) (fun c_2 => ?_)
    ·
      refine X_bipush (v := -7) d_X_judge_31 rfl ?_
      exact X_iret rfl (congrArg (fun q => some (Value.int q)) (by first | (simp [aJudge, c_1, nI_cl (show q < 2 ^ 31 by omega), nI_cl (show i < 2 ^ 31 by omega), c_2, xl_1_0, xl_1_1, xl_2_0, xl_2_1, xl_2_2, xl_3_0, xl_3_1, xl_3_2, xl_3_3]; done) | (exfalso; simp_all; done) | (clear hTs hR hK; simp_all [aJudge, nI_cl (show q < 2 ^ 31 by omega), nI_cl (show i < 2 ^ 31 by omega)]; done))) (xle_3 (fun k hk => by simp only [xup_n _ _ hk])) d_X_judge_33
    ·
      refine X_iload d_X_judge_23 rfl ?_
      refine X_callS (v := .int (xb (xsp sp))) (rest := []) (c_X_isSpeedPace l G nn _ (by omega) sp) lk_X_isSpeedPace ml_X_241 rfl (Nat.le_of_ble_eq_true rfl) (xRok (d' := d - 1) (by omega) (by decide)) ⟨Nat.le_refl _, Nat.le_refl _⟩ d_X_judge_25 rfl ?_
      refine X_ifb_ne (tgt := 34) d_X_judge_28 (by decide) (fun c_3 => ?_) (fun c_3 => ?_)
      ·
        refine X_aload_n d_X_judge_34 rfl rfl ?_
        refine X_aload_n d_X_judge_35 rfl rfl ?_
        refine X_iload_n d_X_judge_36 rfl rfl ?_
        refine X_callV (v := .ref (xg G (17 + 2 * i))) (rest := [.ref (xg G 0)]) (c_X_headAt l G nn (xup xYf 3 (some sHead)) (xup I 3 f3) (by omega) (xYok_3 xYok_f _) i (by omega)) lk_X_headAt ml_X_124 (xm_obj (y0 (xYok_3 xYok_f _))) rfl rfl (Nat.le_of_ble_eq_true rfl) (xRok (d' := d - 1) (by omega) (by decide)) ⟨Nat.le_refl _, Nat.le_refl _⟩ d_X_judge_37 rfl ?_
        refine X_aload_n d_X_judge_40 rfl rfl ?_
        refine X_callV (v := .ref (xg G (27 + 4 * ln))) (rest := [.ref (xg G (17 + 2 * i)), .ref (xg G 0)]) (c_X_law l G nn (xup xYf 3 (some sHead)) (xup I 3 f3) (by omega) (xYok_3 xYok_f _) ln (by omega) ((congrFun (xup_n _ _ (by decide)) _).trans (h12))) lk_X_law ml_X_120 (xm_obj (y0 (xYok_3 xYok_f _))) rfl rfl (Nat.le_of_ble_eq_true rfl) (xRok (d' := d - 1) (by omega) (by decide)) ⟨Nat.le_refl _, Nat.le_refl _⟩ d_X_judge_41 rfl ?_
        refine X_iload_n d_X_judge_44 rfl rfl ?_
        refine X_iload d_X_judge_45 rfl ?_
        refine X_bipush (v := 10) d_X_judge_47 rfl ?_
        refine X_idiv d_X_judge_49 (by decide) ?_
        refine X_callVv (rest := []) (k_X_thinkTurned l G nn (xup xYf 3 (some sHead)) (xup I 3 f3) (by omega) (xYok_3 xYok_f _) (show (xup xYf 3 (some sHead)) 3 = some sHead from rfl) (17 + 2 * i) (yH (xYok_3 xYok_f _) (show i < 5 by omega)) (by omega) (27 + 4 * ln) (S ln) (xTx_up (xTx_Y (xYok_3 xYok_f _) (show ln < 6 by omega) (hTs ln hl)) (show (xup xYf 3 (some sHead)) 3 = some sHead from rfl)) n (sp / 10) (xin_abs c_2) f3 (I (17 + 2 * i)) (xup_s _ _ _) (xup_n _ _ (by omega)) (hR _ (by omega)) hf3) lk_X_thinkTurned ml_X_201 (xm_obj (y0 (xYok_3 xYok_f _))) rfl rfl (Nat.le_of_ble_eq_true rfl) (xRok (d' := d - 1) (by omega) (by decide)) ⟨Nat.le_refl _, Nat.le_refl _⟩ d_X_judge_50 rfl ?_
        rw [xup_up]
        refine X_aload_n d_X_judge_53 rfl rfl ?_
        refine X_aload_n d_X_judge_54 rfl rfl ?_
        refine X_iload_n d_X_judge_55 rfl rfl ?_
        refine X_callV (v := .ref (xg G (51 + 2 * q))) (rest := [.ref (xg G 0)]) (c_X_sheetAt l G nn (xup xYf 3 (some sHead)) (xup I 3 (hSpin (S ln) n (sp / 10) (hStd (I (17 + 2 * i))))) (by omega) (xYok_3 xYok_f _) q (by omega)) lk_X_sheetAt ml_X_256 (xm_obj (y0 (xYok_3 xYok_f _))) rfl rfl (Nat.le_of_ble_eq_true rfl) (xRok (d' := d - 1) (by omega) (by decide)) ⟨Nat.le_refl _, Nat.le_refl _⟩ d_X_judge_56 rfl ?_
        refine X_aload_n d_X_judge_59 rfl rfl ?_
        refine X_callV (v := .ref (xg G (27 + 4 * ln))) (rest := [.ref (xg G (51 + 2 * q)), .ref (xg G 0)]) (c_X_law l G nn (xup xYf 3 (some sHead)) (xup I 3 (hSpin (S ln) n (sp / 10) (hStd (I (17 + 2 * i))))) (by omega) (xYok_3 xYok_f _) ln (by omega) ((congrFun (xup_n _ _ (by decide)) _).trans (h12))) lk_X_law ml_X_120 (xm_obj (y0 (xYok_3 xYok_f _))) rfl rfl (Nat.le_of_ble_eq_true rfl) (xRok (d' := d - 1) (by omega) (by decide)) ⟨Nat.le_refl _, Nat.le_refl _⟩ d_X_judge_60 rfl ?_
        refine X_iload d_X_judge_63 rfl ?_
        refine X_bipush (v := 10) d_X_judge_65 rfl ?_
        refine X_irem d_X_judge_67 (by decide) ?_
        refine X_callV (v := .int ((sFO (S ln) (sp - sp / 10 * 10) (I (51 + 2 * q + 1)) (sz q) 0 (hSpin (S ln) n (sp / 10) (hStd (I (17 + 2 * i))))).1)) (rest := []) (k_X_firstOtherwise l G nn (xup xYf 3 (some sHead)) (xup I 3 (hSpin (S ln) n (sp / 10) (hStd (I (17 + 2 * i))))) (by omega) (xYok_3 xYok_f _) (show (xup xYf 3 (some sHead)) 3 = some sHead from rfl) q (27 + 4 * ln) (by omega) (sz q) ((congrFun (xup_n _ _ (by omega)) _).trans ((hsz q (by omega)).1)) (hsz q (by omega)).2 (S ln) (xTx_up (xTx_Y (xYok_3 xYok_f _) (show ln < 6 by omega) (hTs ln hl)) (show (xup xYf 3 (some sHead)) 3 = some sHead from rfl)) (sp - sp / 10 * 10) (hSpin (S ln) n (sp / 10) (hStd (I (17 + 2 * i)))) (I (51 + 2 * q + 1)) (xup_s _ _ _) (xup_n _ _ (by omega))) lk_X_firstOtherwise ml_X_260 (xm_obj (y0 (xYok_3 xYok_f _))) rfl rfl (Nat.le_of_ble_eq_true rfl) (xRok (d' := d - 1) (by omega) (by decide)) ⟨Nat.le_refl _, Nat.le_refl _⟩ d_X_judge_68 rfl ?_
        rw [xup_up]
        exact X_iret rfl (congrArg (fun q => some (Value.int q)) (by first | (simp [aJudge, c_1, nI_cl (show q < 2 ^ 31 by omega), nI_cl (show i < 2 ^ 31 by omega), c_2, c_3, xl_1_0, xl_1_1, xl_2_0, xl_2_1, xl_2_2, xl_3_0, xl_3_1, xl_3_2, xl_3_3]; done) | (exfalso; simp_all; done) | (clear hTs hR hK; simp_all [aJudge, nI_cl (show q < 2 ^ 31 by omega), nI_cl (show i < 2 ^ 31 by omega)]; done))) (xle_3 (fun k hk => by simp only [xup_n _ _ hk])) d_X_judge_71
      ·
        refine X_bipush (v := -7) d_X_judge_31 rfl ?_
        exact X_iret rfl (congrArg (fun q => some (Value.int q)) (by first | (simp [aJudge, c_1, nI_cl (show q < 2 ^ 31 by omega), nI_cl (show i < 2 ^ 31 by omega), c_2, c_3, xl_1_0, xl_1_1, xl_2_0, xl_2_1, xl_2_2, xl_3_0, xl_3_1, xl_3_2, xl_3_3]; done) | (exfalso; simp_all; done) | (clear hTs hR hK; simp_all [aJudge, nI_cl (show q < 2 ^ 31 by omega), nI_cl (show i < 2 ^ 31 by omega)]; done))) (xle_3 (fun k hk => by simp only [xup_n _ _ hk])) d_X_judge_33
  ·
    refine X_iload d_X_judge_13 rfl ?_
    exact X_iret rfl (congrArg (fun q => some (Value.int q)) (by first | (simp [aJudge, c_1, xl_1_0, xl_1_1, xl_2_0, xl_2_1, xl_2_2, xl_3_0, xl_3_1, xl_3_2, xl_3_3]; done) | (exfalso; simp_all; done) | (clear hTs hR hK; simp_all [aJudge]; done))) (xle_rf _) d_X_judge_15
