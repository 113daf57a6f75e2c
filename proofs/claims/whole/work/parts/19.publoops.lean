def sStands (L : xSay) (speed : Int32) : Nat → Nat → Int32 → (Nat → Int32) → Int32
  | 0, _, g, _ => g
  | k + 1, n, g, f => sStands L speed k (n + 1) (if hMust (hSpin1 L speed 1 f) = true then g else nI n) (hSpin1 L speed 1 f)
def aStands (hc : Nat) (L : xSay) (R : Nat → Nat → Int32) (h sp : Int32) : Int32 := if xin h 0 (nI hc - 1) = true then (if xin sp 1 9 = true then sStands L sp 40 1 0 (hStd (R h.toNatClampNeg)) else -100007) else -100005
def Q_X_stands (l : Launch) (G : xG) (d nn : Nat) (I : xI) (ln : Nat) (S : Nat → xSay) (speed : Int32) (r : Int32) (n : Nat) (g : Int32) (f : Nat → Int32) : Prop := XW l G (xR d 0 0) y_X_stands b_X_stands 5 (some .int) xK0 (xZ G nn (xm G xYf (I)) (some (.int r)) 0 0) nn (xm G (xup xYf 3 (some sHead)) (xup I 3 f)) 0 0 35 [(0, .ref (xg G 0)), (2, .int speed), (3, .int g), (4, .int (nI n))] []
theorem w_X_stands (l : Launch) (G : xG) {d : Nat} (nn : Nat) (I : xI) (hd : 10 ≤ d) (hc tc ln : Nat) (S : Nat → xSay) (hK : cOK I hc tc ln S) (speed : Int32)  (r : Int32) : ∀ (k n : Nat) (g : Int32) (f : Nat → Int32) (hz_f : hOK f), n + k = 41 → r = sStands (S ln) speed k n g f → Q_X_stands l G d nn I ln S speed r n g f := by
  obtain ⟨⟨h10, h5⟩, ⟨h11, h6⟩, ⟨h12, hl⟩, hTs, hR⟩ := id hK
  intro k
  induction k with
  | zero =>
    intro n g f hz_f hk hr
    unfold Q_X_stands
    refine X_iload d_X_stands_35 rfl ?_
    refine X_bipush (v := 40) d_X_stands_37 rfl ?_
    refine X_icmp_gt (tgt := 74) d_X_stands_39 (by decide) (fun _ => ?_) (fun c_1 => absurd c_1 (not_not_intro (show nI 40 < nI n from nI_lt (by omega) (by omega))))
    refine X_iload_n d_X_stands_74 rfl rfl ?_
    exact X_iret rfl (congrArg (fun q => some (Value.int q)) (by rw [hr]; simp [sStands])) (xle_3 (fun k hk => by simp only [xup_n _ _ hk])) d_X_stands_75
  | succ k ih =>
    intro n g f hz_f hk hr
    unfold Q_X_stands
    refine X_iload d_X_stands_35 rfl ?_
    refine X_bipush (v := 40) d_X_stands_37 rfl ?_
    refine X_icmp_gt (tgt := 74) d_X_stands_39 (by decide) (fun c_1 => absurd c_1 (show ¬ nI 40 < nI n from nI_nlt (by omega) (by omega))) (fun _ => ?_)
    refine X_aload_n d_X_stands_42 rfl rfl ?_
    refine X_getR (r := 3) fg_X_19 (y0 (xYok_3 xYok_f _)) rfl d_X_stands_43 ?_
    refine X_aload_n d_X_stands_46 rfl rfl ?_
    refine X_callV (v := .ref (xg G (27 + 4 * ln))) (rest := [.ref (xg G 3)]) (c_X_law l G nn (xup xYf 3 (some sHead)) (xup I 3 f) (by omega) (xYok_3 xYok_f _) ln (by omega) ((congrFun (xup_n _ _ (by decide)) _).trans (h12))) lk_X_law ml_X_120 (xm_obj (y0 (xYok_3 xYok_f _))) rfl rfl (Nat.le_of_ble_eq_true rfl) (xRok (d' := d - 1) (by omega) (by decide)) ⟨Nat.le_refl _, Nat.le_refl _⟩ d_X_stands_47 rfl ?_
    refine X_iload_n d_X_stands_50 rfl rfl ?_
    refine X_iconst (v := 1) d_X_stands_51 rfl ?_
    refine X_callVv (rest := []) (k_Head_spinOnce l G nn (xup xYf 3 (some sHead)) (xup I 3 f) (by omega) 3 (show (xup xYf 3 (some sHead)) 3 = some sHead from rfl) (27 + 4 * ln) (S ln) (xTx_up (xTx_Y (xYok_3 xYok_f _) (show ln < 6 by omega) (hTs ln hl)) (show (xup xYf 3 (some sHead)) 3 = some sHead from rfl)) speed 1 f (xup_s _ _ _)) lk_Head_spinOnce ml_X_209 (xm_obj (show (xup xYf 3 (some sHead)) 3 = some sHead from rfl)) rfl rfl (Nat.le_of_ble_eq_true rfl) (xRok (d' := d - 1) (by omega) (by decide)) ⟨Nat.le_refl _, Nat.le_refl _⟩ d_X_stands_52 rfl ?_
    rw [xup_up]
    refine X_aload_n d_X_stands_55 rfl rfl ?_
    refine X_getR (r := 3) fg_X_19 (y0 (xYok_3 xYok_f _)) rfl d_X_stands_56 ?_
    refine X_callV (v := .int (xb (hMust (hSpin1 (S ln) speed 1 f)))) (rest := []) (k_Head_mustFall l G nn (xup xYf 3 (some sHead)) (xup I 3 (hSpin1 (S ln) speed 1 f)) (by omega) 3 (show (xup xYf 3 (some sHead)) 3 = some sHead from rfl)  (hSpin1 (S ln) speed 1 f) (xup_s _ _ _)) lk_Head_mustFall ml_X_212 (xm_obj (show (xup xYf 3 (some sHead)) 3 = some sHead from rfl)) rfl rfl (Nat.le_of_ble_eq_true rfl) (xRok (d' := d - 1) (by omega) (by decide)) ⟨Nat.le_refl _, Nat.le_refl _⟩ d_X_stands_59 rfl ?_
    refine X_ifb_ne (tgt := 68) d_X_stands_62 (by decide) (fun c_2 => ?_) (fun c_2 => ?_)
    ·
      refine X_iinc d_X_stands_68 rfl (v := (nI n) + 1) rfl (by decide) [1, 2, 3, 0] (L' := [(0, .ref (xg G 0)), (2, .int speed), (3, .int g), (4, .int ((nI n) + 1))]) rfl ?_
      refine X_goto (tgt := 35) d_X_stands_71 (by decide) ?_
      simp only [nI_1]
      exact ih (n + 1) _ _ (hOK_spin1 _ _ _ hz_f) (by omega) (by rw [hr]; simp [sStands, c_2])
    ·
      refine X_iload d_X_stands_65 rfl ?_
      refine X_istore_n d_X_stands_67 rfl (by decide) [1, 2, 0, 3] (L' := [(0, .ref (xg G 0)), (2, .int speed), (3, .int (nI n)), (4, .int (nI n))]) rfl ?_
      refine X_iinc d_X_stands_68 rfl (v := (nI n) + 1) rfl (by decide) [1, 2, 3, 0] (L' := [(0, .ref (xg G 0)), (2, .int speed), (3, .int (nI n)), (4, .int ((nI n) + 1))]) rfl ?_
      refine X_goto (tgt := 35) d_X_stands_71 (by decide) ?_
      simp only [nI_1]
      exact ih (n + 1) _ _ (hOK_spin1 _ _ _ hz_f) (by omega) (by rw [hr]; simp [sStands, c_2])
theorem c_X_stands (l : Launch) (G : xG) {d : Nat} (nn : Nat) (I : xI) (hd : 11 ≤ d) (hc tc ln : Nat) (S : Nat → xSay) (hK : cOK I hc tc ln S) (h sp : Int32) : XM l G d y_X_stands b_X_stands 5 (some .int) 0 0 xK0 [.ref (xg G 0), .int h, .int sp] nn (xm G xYf I) (some (.int (aStands hc (S ln) (fun i => I (17 + 2 * i)) h sp))) nn (xm G xYf (I)) := by
  obtain ⟨⟨h10, h5⟩, ⟨h11, h6⟩, ⟨h12, hl⟩, hTs, hR⟩ := id hK
  have hT : xTx xYf I (27 + 4 * ln) (S ln) := hTs ln hl
  refine XM.of (by decide) (Nat.le_of_ble_eq_true rfl) (L := [(0, .ref (xg G 0)), (1, .int h), (2, .int sp)]) rfl ?_
  refine X_knowH (a := 3) rfl (fun f3 hf3 => ?_)
  refine X_aload_n d_X_stands_0 rfl rfl ?_
  refine X_iload_n d_X_stands_1 rfl rfl ?_
  refine X_callV (v := .int (xb (xin h 0 (nI hc - 1)))) (rest := []) (c_X_isHead l G nn (xup xYf 3 (some sHead)) (xup I 3 f3) (by omega) (xYok_3 xYok_f _) h (nI hc) ((congrFun (xup_n _ _ (by decide)) _).trans (h10))) lk_X_isHead ml_X_113 (xm_obj (y0 (xYok_3 xYok_f _))) rfl rfl (Nat.le_of_ble_eq_true rfl) (xRok (d' := d - 1) (by omega) (by decide)) ⟨Nat.le_refl _, Nat.le_refl _⟩ d_X_stands_2 rfl ?_
  refine X_ifb_ne (tgt := 11) d_X_stands_5 (by decide) (fun c_1 => ?_) (fun c_1 => ?_)
  ·
    obtain ⟨i, hi, rfl⟩ := cHead h5 c_1
    refine X_iload_n d_X_stands_11 rfl rfl ?_
    refine X_callS (v := .int (xb (xin sp 1 9))) (rest := []) (c_X_isPace l G nn _ (by omega) sp) lk_X_isPace ml_X_172 rfl (Nat.le_of_ble_eq_true rfl) (xRok (d' := d - 1) (by omega) (by decide)) ⟨Nat.le_refl _, Nat.le_refl _⟩ d_X_stands_12 rfl ?_
    refine X_ifb_ne (tgt := 21) d_X_stands_15 (by decide) (fun c_2 => ?_) (fun c_2 => ?_)
    ·
      refine X_aload_n d_X_stands_21 rfl rfl ?_
      refine X_aload_n d_X_stands_22 rfl rfl ?_
      refine X_iload_n d_X_stands_23 rfl rfl ?_
      refine X_callV (v := .ref (xg G (17 + 2 * i))) (rest := [.ref (xg G 0)]) (c_X_headAt l G nn (xup xYf 3 (some sHead)) (xup I 3 f3) (by omega) (xYok_3 xYok_f _) i (by omega)) lk_X_headAt ml_X_124 (xm_obj (y0 (xYok_3 xYok_f _))) rfl rfl (Nat.le_of_ble_eq_true rfl) (xRok (d' := d - 1) (by omega) (by decide)) ⟨Nat.le_refl _, Nat.le_refl _⟩ d_X_stands_24 rfl ?_
      refine X_callVv (rest := []) (k_X_think l G nn (xup xYf 3 (some sHead)) (xup I 3 f3) (by omega) (xYok_3 xYok_f _) (show (xup xYf 3 (some sHead)) 3 = some sHead from rfl) (17 + 2 * i) (yH (xYok_3 xYok_f _) (show i < 5 by omega)) (by omega) f3 (I (17 + 2 * i)) (xup_s _ _ _) (xup_n _ _ (by omega)) (hR _ (by omega)) hf3) lk_X_think ml_X_205 (xm_obj (y0 (xYok_3 xYok_f _))) rfl rfl (Nat.le_of_ble_eq_true rfl) (xRok (d' := d - 1) (by omega) (by decide)) ⟨Nat.le_refl _, Nat.le_refl _⟩ d_X_stands_27 rfl ?_
      rw [xup_up]
      refine X_iconst (v := 0) d_X_stands_30 rfl ?_
      refine X_istore_n d_X_stands_31 rfl (by decide) [1, 2, 3, 0] (L' := [(0, .ref (xg G 0)), (1, .int (nI i)), (2, .int sp), (3, .int 0)]) rfl ?_
      refine X_iconst (v := 1) d_X_stands_32 rfl ?_
      refine X_istore d_X_stands_33 (by decide) [1, 2, 3, 4, 0] (L' := [(0, .ref (xg G 0)), (1, .int (nI i)), (2, .int sp), (3, .int 0), (4, .int 1)]) rfl ?_
      refine X_sub [0, 2, 3, 4] (L' := [(0, .ref (xg G 0)), (2, .int sp), (3, .int 0), (4, .int 1)]) rfl ?_
      exact w_X_stands l G nn I (by omega) hc tc ln S hK sp _ 40 1 _ _ (hOK_sd (hR _ (by omega))) (by omega) (by simp [aStands, c_1, nI_cl (show i < 2 ^ 31 by omega), c_2])
    ·
      refine X_ldc cs_X_149 d_X_stands_18 ?_
      exact X_iret rfl (congrArg (fun q => some (Value.int q)) (by first | (simp [aStands, c_1, nI_cl (show i < 2 ^ 31 by omega), c_2, xl_1_0, xl_1_1, xl_2_0, xl_2_1, xl_2_2, xl_3_0, xl_3_1, xl_3_2, xl_3_3]; done) | (exfalso; simp_all; done))) (xle_3 (fun k hk => by simp only [xup_n _ _ hk])) d_X_stands_20
  ·
    refine X_ldc cs_X_139 d_X_stands_8 ?_
    exact X_iret rfl (congrArg (fun q => some (Value.int q)) (by first | (simp [aStands, c_1, xl_1_0, xl_1_1, xl_2_0, xl_2_1, xl_2_2, xl_3_0, xl_3_1, xl_3_2, xl_3_3]; done) | (exfalso; simp_all; done))) (xle_3 (fun k hk => by simp only [xup_n _ _ hk])) d_X_stands_10
