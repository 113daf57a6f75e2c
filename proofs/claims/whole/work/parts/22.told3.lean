def sBits (v : Nat → Int32) : Nat → Nat → Int32 → Int32
  | 0, _, b => b
  | k + 1, i, b => sBits v k (i + 1) (if v i < 0 then b ||| 1 <<< (nI i &&& 31) else b)
def tUnl (L : xSay) (cl : Nat → Int32) (sz : Nat) (n sp : Int32) (f : Nat → Int32) : Int32 := (sFO L (sp - sp / 10 * 10) cl sz 0 (hSpin L n (sp / 10) (hStd f))).1
def aLaws (hc tc : Nat) (S : Nat → xSay) (R : Nat → Nat → Int32) (srt : Nat → Int32) (sz : Nat → Nat) (cl : Nat → Nat → Int32) (s h n sp : Int32) : Int32 := if rTold hc srt s h = 0 then (if xin n (-40) 40 = true ∧ xsp sp = true then sBits (fun t => tUnl (S t) (cl s.toNatClampNeg) (sz s.toNatClampNeg) n sp (R h.toNatClampNeg)) tc 0 0 else -7) else rTold hc srt s h
def aWhose (hc : Nat) (L : xSay) (R : Nat → Nat → Int32) (srt : Nat → Int32) (sz : Nat → Nat) (cl : Nat → Nat → Int32) (s n sp : Int32) : Int32 := if rSheet srt s = 0 then (if xin n (-40) 40 = true ∧ xsp sp = true then sBits (fun h => tUnl L (cl s.toNatClampNeg) (sz s.toNatClampNeg) n sp (R h)) hc 0 0 else -7) else rSheet srt s
def Q_X_laws (l : Launch) (G : xG) (d nn : Nat) (I : xI) (ln : Nat) (S : Nat → xSay) (q : Nat) (i : Nat) (n : Int32) (sp : Int32) (r : Int32) (t : Nat) (b : Int32) (f : Nat → Int32) : Prop := XW l G (xR d 0 0) y_X_laws b_X_laws 8 (some .int) xK0 (xZ G nn (xm G xYf (I)) (some (.int r)) 0 0) nn (xm G (xup xYf 3 (some sHead)) (xup I 3 f)) 0 0 40 [(0, .ref (xg G 0)), (1, .int (nI q)), (2, .int (nI i)), (3, .int n), (4, .int sp), (6, .int b), (7, .int (nI t))] []
theorem w_X_laws (l : Launch) (G : xG) {d : Nat} (nn : Nat) (I : xI) (hd : 10 ≤ d) (hc tc ln : Nat) (S : Nat → xSay) (hK : cOK I hc tc ln S) (sz : Nat → Nat) (hsz : sOK I sz) (q : Nat) (i : Nat) (n : Int32) (sp : Int32) (hq : q < 4) (hi : i < hc) (hn : ¬ xabs n < 0) (r : Int32) : ∀ (k t : Nat) (b : Int32) (f : Nat → Int32) (hy_f : hZ f), t + k = tc → r = sBits (fun t => tUnl (S t) (I (51 + 2 * q + 1)) (sz q) n sp (I (17 + 2 * i))) k t b → Q_X_laws l G d nn I ln S q i n sp r t b f := by
  obtain ⟨⟨h10, h5⟩, ⟨h11, h6⟩, ⟨h12, hl⟩, hTs, hR⟩ := id hK
  intro k
  induction k with
  | zero =>
    intro t b f hy_f hk hr
    unfold Q_X_laws
    refine X_iload d_X_laws_40 rfl ?_
    refine X_aload_n d_X_laws_42 rfl rfl ?_
    refine X_getI (v := nI tc) fg_X_63 (y0 (xYok_3 xYok_f _)) rfl ((congrFun (xup_n _ _ (by decide)) _).trans (h11)) d_X_laws_43 ?_
    refine X_icmp_ge (tgt := 108) d_X_laws_46 (by decide) (fun _ => ?_) (fun c_1 => absurd c_1 (not_not_intro (show nI tc ≤ nI t from nI_le (by omega) (by omega))))
    refine X_iload d_X_laws_108 rfl ?_
    exact X_iret rfl (congrArg (fun q => some (Value.int q)) (by rw [hr]; first | (simp [sBits, tUnl]; done) | simp_all [sBits, tUnl])) (xle_3 (fun k hk => by simp only [xup_n _ _ hk])) d_X_laws_110
  | succ k ih =>
    intro t b f hy_f hk hr
    unfold Q_X_laws
    refine X_iload d_X_laws_40 rfl ?_
    refine X_aload_n d_X_laws_42 rfl rfl ?_
    refine X_getI (v := nI tc) fg_X_63 (y0 (xYok_3 xYok_f _)) rfl ((congrFun (xup_n _ _ (by decide)) _).trans (h11)) d_X_laws_43 ?_
    refine X_icmp_ge (tgt := 108) d_X_laws_46 (by decide) (fun c_1 => absurd c_1 (show ¬ nI tc ≤ nI t from nI_ge (by omega) (by omega))) (fun _ => ?_)
    refine X_aload_n d_X_laws_49 rfl rfl ?_
    refine X_aload_n d_X_laws_50 rfl rfl ?_
    refine X_iload_n d_X_laws_51 rfl rfl ?_
    refine X_callV (v := .ref (xg G (17 + 2 * i))) (rest := [.ref (xg G 0)]) (c_X_headAt l G nn (xup xYf 3 (some sHead)) (xup I 3 f) (by omega) (xYok_3 xYok_f _) i (by omega)) lk_X_headAt ml_X_124 (xm_obj (y0 (xYok_3 xYok_f _))) rfl rfl (Nat.le_of_ble_eq_true rfl) (xRok (d' := d - 1) (by omega) (by decide)) ⟨Nat.le_refl _, Nat.le_refl _⟩ d_X_laws_52 rfl ?_
    refine X_aload_n d_X_laws_55 rfl rfl ?_
    refine X_iload d_X_laws_56 rfl ?_
    refine X_callV (v := .ref (xg G (27 + 4 * t))) (rest := [.ref (xg G (17 + 2 * i)), .ref (xg G 0)]) (c_X_textAt l G nn (xup xYf 3 (some sHead)) (xup I 3 f) (by omega) (xYok_3 xYok_f _) t (by omega)) lk_X_textAt ml_X_91 (xm_obj (y0 (xYok_3 xYok_f _))) rfl rfl (Nat.le_of_ble_eq_true rfl) (xRok (d' := d - 1) (by omega) (by decide)) ⟨Nat.le_refl _, Nat.le_refl _⟩ d_X_laws_58 rfl ?_
    refine X_iload_n d_X_laws_61 rfl rfl ?_
    refine X_iload d_X_laws_62 rfl ?_
    refine X_bipush (v := 10) d_X_laws_64 rfl ?_
    refine X_idiv d_X_laws_66 (by decide) ?_
    refine X_callVv (rest := []) (k_X_thinkTurned l G nn (xup xYf 3 (some sHead)) (xup I 3 f) (by omega) (xYok_3 xYok_f _) (show (xup xYf 3 (some sHead)) 3 = some sHead from rfl) (17 + 2 * i) (yH (xYok_3 xYok_f _) (show i < 5 by omega)) (by omega) (27 + 4 * t) (S t) (xTx_up (xTx_Y (xYok_3 xYok_f _) (show t < 6 by omega) (hTs t (by omega))) (show (xup xYf 3 (some sHead)) 3 = some sHead from rfl)) n (sp / 10) hn f (I (17 + 2 * i)) (xup_s _ _ _) (xup_n _ _ (by omega)) (hR _ (by omega)) hy_f) lk_X_thinkTurned ml_X_201 (xm_obj (y0 (xYok_3 xYok_f _))) rfl rfl (Nat.le_of_ble_eq_true rfl) (xRok (d' := d - 1) (by omega) (by decide)) ⟨Nat.le_refl _, Nat.le_refl _⟩ d_X_laws_67 rfl ?_
    rw [xup_up]
    refine X_aload_n d_X_laws_70 rfl rfl ?_
    refine X_aload_n d_X_laws_71 rfl rfl ?_
    refine X_iload_n d_X_laws_72 rfl rfl ?_
    refine X_callV (v := .ref (xg G (51 + 2 * q))) (rest := [.ref (xg G 0)]) (c_X_sheetAt l G nn (xup xYf 3 (some sHead)) (xup I 3 (hSpin (S t) n (sp / 10) (hStd (I (17 + 2 * i))))) (by omega) (xYok_3 xYok_f _) q (by omega)) lk_X_sheetAt ml_X_256 (xm_obj (y0 (xYok_3 xYok_f _))) rfl rfl (Nat.le_of_ble_eq_true rfl) (xRok (d' := d - 1) (by omega) (by decide)) ⟨Nat.le_refl _, Nat.le_refl _⟩ d_X_laws_73 rfl ?_
    refine X_aload_n d_X_laws_76 rfl rfl ?_
    refine X_iload d_X_laws_77 rfl ?_
    refine X_callV (v := .ref (xg G (27 + 4 * t))) (rest := [.ref (xg G (51 + 2 * q)), .ref (xg G 0)]) (c_X_textAt l G nn (xup xYf 3 (some sHead)) (xup I 3 (hSpin (S t) n (sp / 10) (hStd (I (17 + 2 * i))))) (by omega) (xYok_3 xYok_f _) t (by omega)) lk_X_textAt ml_X_91 (xm_obj (y0 (xYok_3 xYok_f _))) rfl rfl (Nat.le_of_ble_eq_true rfl) (xRok (d' := d - 1) (by omega) (by decide)) ⟨Nat.le_refl _, Nat.le_refl _⟩ d_X_laws_79 rfl ?_
    refine X_iload d_X_laws_82 rfl ?_
    refine X_bipush (v := 10) d_X_laws_84 rfl ?_
    refine X_irem d_X_laws_86 (by decide) ?_
    refine X_callV (v := .int ((sFO (S t) (sp - sp / 10 * 10) (I (51 + 2 * q + 1)) (sz q) 0 (hSpin (S t) n (sp / 10) (hStd (I (17 + 2 * i))))).1)) (rest := []) (k_X_firstOtherwise l G nn (xup xYf 3 (some sHead)) (xup I 3 (hSpin (S t) n (sp / 10) (hStd (I (17 + 2 * i))))) (by omega) (xYok_3 xYok_f _) (show (xup xYf 3 (some sHead)) 3 = some sHead from rfl) q (27 + 4 * t) (by omega) (sz q) ((congrFun (xup_n _ _ (by omega)) _).trans ((hsz q (by omega)).1)) (hsz q (by omega)).2 (S t) (xTx_up (xTx_Y (xYok_3 xYok_f _) (show t < 6 by omega) (hTs t (by omega))) (show (xup xYf 3 (some sHead)) 3 = some sHead from rfl)) (sp - sp / 10 * 10) (hSpin (S t) n (sp / 10) (hStd (I (17 + 2 * i)))) (I (51 + 2 * q + 1)) (xup_s _ _ _) (xup_n _ _ (by omega))) lk_X_firstOtherwise ml_X_260 (xm_obj (y0 (xYok_3 xYok_f _))) rfl rfl (Nat.le_of_ble_eq_true rfl) (xRok (d' := d - 1) (by omega) (by decide)) ⟨Nat.le_refl _, Nat.le_refl _⟩ d_X_laws_87 rfl ?_
    rw [xup_up]
    refine X_if_ge (tgt := 102) d_X_laws_90 (by decide) (fun c_2 => ?_) (fun c_2 => ?_)
    ·
      refine X_iinc d_X_laws_102 rfl (v := (nI t) + 1) rfl (by decide) [1, 2, 3, 4, 5, 6, 0] (L' := [(0, .ref (xg G 0)), (1, .int (nI q)), (2, .int (nI i)), (3, .int n), (4, .int sp), (6, .int b), (7, .int ((nI t) + 1))]) rfl ?_
      refine X_goto (tgt := 40) d_X_laws_105 (by decide) ?_
      simp only [nI_1]
      exact ih (t + 1) _ _ (hOK_FO _ _ _ _ _ (hOK_spin _ _ _ (hOK_sd (hR _ (by omega))))).2 (by omega) (by rw [hr]; simp [sBits, tUnl, c_2, Int32.not_lt.mpr c_2])
    ·
      refine X_iload d_X_laws_93 rfl ?_
      refine X_iconst (v := 1) d_X_laws_95 rfl ?_
      refine X_iload d_X_laws_96 rfl ?_
      refine X_ishl d_X_laws_98 ?_
      refine X_ior d_X_laws_99 ?_
      refine X_istore d_X_laws_100 (by decide) [1, 2, 3, 4, 5, 0, 6] (L' := [(0, .ref (xg G 0)), (1, .int (nI q)), (2, .int (nI i)), (3, .int n), (4, .int sp), (6, .int (b ||| (1 <<< ((nI t) &&& 31)))), (7, .int (nI t))]) rfl ?_
      refine X_iinc d_X_laws_102 rfl (v := (nI t) + 1) rfl (by decide) [1, 2, 3, 4, 5, 6, 0] (L' := [(0, .ref (xg G 0)), (1, .int (nI q)), (2, .int (nI i)), (3, .int n), (4, .int sp), (6, .int (b ||| (1 <<< ((nI t) &&& 31)))), (7, .int ((nI t) + 1))]) rfl ?_
      refine X_goto (tgt := 40) d_X_laws_105 (by decide) ?_
      simp only [nI_1]
      exact ih (t + 1) _ _ (hOK_FO _ _ _ _ _ (hOK_spin _ _ _ (hOK_sd (hR _ (by omega))))).2 (by omega) (by rw [hr]; simp [sBits, tUnl, c_2, Int32.not_le.mp c_2])
theorem c_X_laws (l : Launch) (G : xG) {d : Nat} (nn : Nat) (I : xI) (hd : 11 ≤ d) (hc tc ln : Nat) (S : Nat → xSay) (hK : cOK I hc tc ln S) (sz : Nat → Nat) (hsz : sOK I sz) (s h n sp : Int32) : XM l G d y_X_laws b_X_laws 8 (some .int) 0 0 xK0 [.ref (xg G 0), .int s, .int h, .int n, .int sp] nn (xm G xYf I) (some (.int (aLaws hc tc S (fun i => I (17 + 2 * i)) (fun q => I (51 + 2 * q) 1) sz (fun q => I (51 + 2 * q + 1)) s h n sp))) nn (xm G xYf (I)) := by
  obtain ⟨⟨h10, h5⟩, ⟨h11, h6⟩, ⟨h12, hl⟩, hTs, hR⟩ := id hK
  refine XM.of (by decide) (Nat.le_of_ble_eq_true rfl) (L := [(0, .ref (xg G 0)), (1, .int s), (2, .int h), (3, .int n), (4, .int sp)]) rfl ?_
  refine X_aload_n d_X_laws_0 rfl rfl ?_
  refine X_iload_n d_X_laws_1 rfl rfl ?_
  refine X_iload_n d_X_laws_2 rfl rfl ?_
  refine X_callV (v := .int (rTold hc (fun q => I (51 + 2 * q) 1) s h)) (rest := []) (c_X_refusalOfTold l G nn I (by omega) hc tc ln S hK s h) lk_X_refusalOfTold ml_X_253 (xm_obj (y0 xYok_f)) rfl rfl (Nat.le_of_ble_eq_true rfl) (xRok (d' := d - 1) (by omega) (by decide)) ⟨Nat.le_refl _, Nat.le_refl _⟩ d_X_laws_3 rfl ?_
  refine X_istore d_X_laws_6 (by decide) [1, 2, 3, 4, 5, 0] (L' := [(0, .ref (xg G 0)), (1, .int s), (2, .int h), (3, .int n), (4, .int sp), (5, .int (rTold hc (fun q => I (51 + 2 * q) 1) s h))]) rfl ?_
  refine X_iload d_X_laws_8 rfl ?_
  refine X_if_eq (tgt := 16) d_X_laws_10 (by decide) (fun c_1 => ?_) (fun c_1 => ?_)
  ·
    obtain ⟨q, i, hq, hi, rfl, rfl, hsq⟩ := rTold_ok h5 c_1
    refine X_knowH (a := 3) rfl (fun f3 hf3 => ?_)
    refine X_iload_n d_X_laws_16 rfl rfl ?_
    refine X_callS (v := .int (xb (xin n (-40) 40))) (rest := []) (c_X_isTurns l G nn _ (by omega) n) lk_X_isTurns ml_X_169 rfl (Nat.le_of_ble_eq_true rfl) (xRok (d' := d - 1) (by omega) (by decide)) ⟨Nat.le_refl _, Nat.le_refl _⟩ d_X_laws_17 rfl ?_
    refine X_ifb_eq (tgt := 31) d_X_laws_20 (by decide) (fun c_2 => ?_) (fun c_2 => ?_)
    ·
      refine X_bipush (v := -7) d_X_laws_31 rfl ?_
      exact X_iret rfl (congrArg (fun q => some (Value.int q)) (by first | (simp [aLaws, c_1, nI_cl (show q < 2 ^ 31 by omega), nI_cl (show i < 2 ^ 31 by omega), c_2, xl_1_0, xl_1_1, xl_2_0, xl_2_1, xl_2_2, xl_3_0, xl_3_1, xl_3_2, xl_3_3]; done) | (exfalso; simp_all; done) | (clear hTs hR hK; simp_all [aLaws, nI_cl (show q < 2 ^ 31 by omega), nI_cl (show i < 2 ^ 31 by omega)]; done))) (xle_3 (fun k hk => by simp only [xup_n _ _ hk])) d_X_laws_33
    ·
      refine X_iload d_X_laws_23 rfl ?_
      refine X_callS (v := .int (xb (xsp sp))) (rest := []) (c_X_isSpeedPace l G nn _ (by omega) sp) lk_X_isSpeedPace ml_X_241 rfl (Nat.le_of_ble_eq_true rfl) (xRok (d' := d - 1) (by omega) (by decide)) ⟨Nat.le_refl _, Nat.le_refl _⟩ d_X_laws_25 rfl ?_
      refine X_ifb_ne (tgt := 34) d_X_laws_28 (by decide) (fun c_3 => ?_) (fun c_3 => ?_)
      ·
        refine X_iconst (v := 0) d_X_laws_34 rfl ?_
        refine X_istore d_X_laws_35 (by decide) [1, 2, 3, 4, 5, 6, 0] (L' := [(0, .ref (xg G 0)), (1, .int (nI q)), (2, .int (nI i)), (3, .int n), (4, .int sp), (5, .int (rTold hc (fun q => I (51 + 2 * q) 1) (nI q) (nI i))), (6, .int 0)]) rfl ?_
        refine X_iconst (v := 0) d_X_laws_37 rfl ?_
        refine X_istore d_X_laws_38 (by decide) [1, 2, 3, 4, 5, 6, 7, 0] (L' := [(0, .ref (xg G 0)), (1, .int (nI q)), (2, .int (nI i)), (3, .int n), (4, .int sp), (5, .int (rTold hc (fun q => I (51 + 2 * q) 1) (nI q) (nI i))), (6, .int 0), (7, .int 0)]) rfl ?_
        refine X_sub [0, 1, 2, 3, 4, 6, 7] (L' := [(0, .ref (xg G 0)), (1, .int (nI q)), (2, .int (nI i)), (3, .int n), (4, .int sp), (6, .int 0), (7, .int 0)]) rfl ?_
        exact w_X_laws l G nn I (by omega) hc tc ln S hK sz hsz q i n sp hq hi (xin_abs c_2) _ tc 0 _ _ hf3 (by omega) (by first | (simp [aLaws, c_1, nI_cl (show q < 2 ^ 31 by omega), nI_cl (show i < 2 ^ 31 by omega), c_2, c_3, xl_1_0, xl_1_1, xl_2_0, xl_2_1, xl_2_2]; done) | (clear hTs hR hK; simp_all [aLaws, nI_cl (show q < 2 ^ 31 by omega), nI_cl (show i < 2 ^ 31 by omega)]; done))
      ·
        refine X_bipush (v := -7) d_X_laws_31 rfl ?_
        exact X_iret rfl (congrArg (fun q => some (Value.int q)) (by first | (simp [aLaws, c_1, nI_cl (show q < 2 ^ 31 by omega), nI_cl (show i < 2 ^ 31 by omega), c_2, c_3, xl_1_0, xl_1_1, xl_2_0, xl_2_1, xl_2_2, xl_3_0, xl_3_1, xl_3_2, xl_3_3]; done) | (exfalso; simp_all; done) | (clear hTs hR hK; simp_all [aLaws, nI_cl (show q < 2 ^ 31 by omega), nI_cl (show i < 2 ^ 31 by omega)]; done))) (xle_3 (fun k hk => by simp only [xup_n _ _ hk])) d_X_laws_33
  ·
    refine X_iload d_X_laws_13 rfl ?_
    exact X_iret rfl (congrArg (fun q => some (Value.int q)) (by first | (simp [aLaws, c_1, xl_1_0, xl_1_1, xl_2_0, xl_2_1, xl_2_2, xl_3_0, xl_3_1, xl_3_2, xl_3_3]; done) | (exfalso; simp_all; done) | (clear hTs hR hK; simp_all [aLaws]; done))) (xle_rf _) d_X_laws_15
def Q_X_whose (l : Launch) (G : xG) (d nn : Nat) (I : xI) (ln : Nat) (S : Nat → xSay) (q : Nat) (n : Int32) (sp : Int32) (r : Int32) (i : Nat) (b : Int32) (f : Nat → Int32) : Prop := XW l G (xR d 0 0) y_X_whose b_X_whose 7 (some .int) xK0 (xZ G nn (xm G xYf (I)) (some (.int r)) 0 0) nn (xm G (xup xYf 3 (some sHead)) (xup I 3 f)) 0 0 38 [(0, .ref (xg G 0)), (1, .int (nI q)), (2, .int n), (3, .int sp), (5, .int b), (6, .int (nI i))] []
theorem w_X_whose (l : Launch) (G : xG) {d : Nat} (nn : Nat) (I : xI) (hd : 10 ≤ d) (hc tc ln : Nat) (S : Nat → xSay) (hK : cOK I hc tc ln S) (sz : Nat → Nat) (hsz : sOK I sz) (q : Nat) (n : Int32) (sp : Int32) (hq : q < 4) (hn : ¬ xabs n < 0) (r : Int32) : ∀ (k i : Nat) (b : Int32) (f : Nat → Int32) (hy_f : hZ f), i + k = hc → r = sBits (fun i => tUnl (S ln) (I (51 + 2 * q + 1)) (sz q) n sp (I (17 + 2 * i))) k i b → Q_X_whose l G d nn I ln S q n sp r i b f := by
  obtain ⟨⟨h10, h5⟩, ⟨h11, h6⟩, ⟨h12, hl⟩, hTs, hR⟩ := id hK
  intro k
  induction k with
  | zero =>
    intro i b f hy_f hk hr
    unfold Q_X_whose
    refine X_iload d_X_whose_38 rfl ?_
    refine X_aload_n d_X_whose_40 rfl rfl ?_
    refine X_getI (v := nI hc) fg_X_59 (y0 (xYok_3 xYok_f _)) rfl ((congrFun (xup_n _ _ (by decide)) _).trans (h10)) d_X_whose_41 ?_
    refine X_icmp_ge (tgt := 101) d_X_whose_44 (by decide) (fun _ => ?_) (fun c_1 => absurd c_1 (not_not_intro (show nI hc ≤ nI i from nI_le (by omega) (by omega))))
    refine X_iload d_X_whose_101 rfl ?_
    exact X_iret rfl (congrArg (fun q => some (Value.int q)) (by rw [hr]; first | (simp [sBits, tUnl]; done) | simp_all [sBits, tUnl])) (xle_3 (fun k hk => by simp only [xup_n _ _ hk])) d_X_whose_103
  | succ k ih =>
    intro i b f hy_f hk hr
    unfold Q_X_whose
    refine X_iload d_X_whose_38 rfl ?_
    refine X_aload_n d_X_whose_40 rfl rfl ?_
    refine X_getI (v := nI hc) fg_X_59 (y0 (xYok_3 xYok_f _)) rfl ((congrFun (xup_n _ _ (by decide)) _).trans (h10)) d_X_whose_41 ?_
    refine X_icmp_ge (tgt := 101) d_X_whose_44 (by decide) (fun c_1 => absurd c_1 (show ¬ nI hc ≤ nI i from nI_ge (by omega) (by omega))) (fun _ => ?_)
    refine X_aload_n d_X_whose_47 rfl rfl ?_
    refine X_aload_n d_X_whose_48 rfl rfl ?_
    refine X_iload d_X_whose_49 rfl ?_
    refine X_callV (v := .ref (xg G (17 + 2 * i))) (rest := [.ref (xg G 0)]) (c_X_headAt l G nn (xup xYf 3 (some sHead)) (xup I 3 f) (by omega) (xYok_3 xYok_f _) i (by omega)) lk_X_headAt ml_X_124 (xm_obj (y0 (xYok_3 xYok_f _))) rfl rfl (Nat.le_of_ble_eq_true rfl) (xRok (d' := d - 1) (by omega) (by decide)) ⟨Nat.le_refl _, Nat.le_refl _⟩ d_X_whose_51 rfl ?_
    refine X_aload_n d_X_whose_54 rfl rfl ?_
    refine X_callV (v := .ref (xg G (27 + 4 * ln))) (rest := [.ref (xg G (17 + 2 * i)), .ref (xg G 0)]) (c_X_law l G nn (xup xYf 3 (some sHead)) (xup I 3 f) (by omega) (xYok_3 xYok_f _) ln (by omega) ((congrFun (xup_n _ _ (by decide)) _).trans (h12))) lk_X_law ml_X_120 (xm_obj (y0 (xYok_3 xYok_f _))) rfl rfl (Nat.le_of_ble_eq_true rfl) (xRok (d' := d - 1) (by omega) (by decide)) ⟨Nat.le_refl _, Nat.le_refl _⟩ d_X_whose_55 rfl ?_
    refine X_iload_n d_X_whose_58 rfl rfl ?_
    refine X_iload_n d_X_whose_59 rfl rfl ?_
    refine X_bipush (v := 10) d_X_whose_60 rfl ?_
    refine X_idiv d_X_whose_62 (by decide) ?_
    refine X_callVv (rest := []) (k_X_thinkTurned l G nn (xup xYf 3 (some sHead)) (xup I 3 f) (by omega) (xYok_3 xYok_f _) (show (xup xYf 3 (some sHead)) 3 = some sHead from rfl) (17 + 2 * i) (yH (xYok_3 xYok_f _) (show i < 5 by omega)) (by omega) (27 + 4 * ln) (S ln) (xTx_up (xTx_Y (xYok_3 xYok_f _) (show ln < 6 by omega) (hTs ln hl)) (show (xup xYf 3 (some sHead)) 3 = some sHead from rfl)) n (sp / 10) hn f (I (17 + 2 * i)) (xup_s _ _ _) (xup_n _ _ (by omega)) (hR _ (by omega)) hy_f) lk_X_thinkTurned ml_X_201 (xm_obj (y0 (xYok_3 xYok_f _))) rfl rfl (Nat.le_of_ble_eq_true rfl) (xRok (d' := d - 1) (by omega) (by decide)) ⟨Nat.le_refl _, Nat.le_refl _⟩ d_X_whose_63 rfl ?_
    rw [xup_up]
    refine X_aload_n d_X_whose_66 rfl rfl ?_
    refine X_aload_n d_X_whose_67 rfl rfl ?_
    refine X_iload_n d_X_whose_68 rfl rfl ?_
    refine X_callV (v := .ref (xg G (51 + 2 * q))) (rest := [.ref (xg G 0)]) (c_X_sheetAt l G nn (xup xYf 3 (some sHead)) (xup I 3 (hSpin (S ln) n (sp / 10) (hStd (I (17 + 2 * i))))) (by omega) (xYok_3 xYok_f _) q (by omega)) lk_X_sheetAt ml_X_256 (xm_obj (y0 (xYok_3 xYok_f _))) rfl rfl (Nat.le_of_ble_eq_true rfl) (xRok (d' := d - 1) (by omega) (by decide)) ⟨Nat.le_refl _, Nat.le_refl _⟩ d_X_whose_69 rfl ?_
    refine X_aload_n d_X_whose_72 rfl rfl ?_
    refine X_callV (v := .ref (xg G (27 + 4 * ln))) (rest := [.ref (xg G (51 + 2 * q)), .ref (xg G 0)]) (c_X_law l G nn (xup xYf 3 (some sHead)) (xup I 3 (hSpin (S ln) n (sp / 10) (hStd (I (17 + 2 * i))))) (by omega) (xYok_3 xYok_f _) ln (by omega) ((congrFun (xup_n _ _ (by decide)) _).trans (h12))) lk_X_law ml_X_120 (xm_obj (y0 (xYok_3 xYok_f _))) rfl rfl (Nat.le_of_ble_eq_true rfl) (xRok (d' := d - 1) (by omega) (by decide)) ⟨Nat.le_refl _, Nat.le_refl _⟩ d_X_whose_73 rfl ?_
    refine X_iload_n d_X_whose_76 rfl rfl ?_
    refine X_bipush (v := 10) d_X_whose_77 rfl ?_
    refine X_irem d_X_whose_79 (by decide) ?_
    refine X_callV (v := .int ((sFO (S ln) (sp - sp / 10 * 10) (I (51 + 2 * q + 1)) (sz q) 0 (hSpin (S ln) n (sp / 10) (hStd (I (17 + 2 * i))))).1)) (rest := []) (k_X_firstOtherwise l G nn (xup xYf 3 (some sHead)) (xup I 3 (hSpin (S ln) n (sp / 10) (hStd (I (17 + 2 * i))))) (by omega) (xYok_3 xYok_f _) (show (xup xYf 3 (some sHead)) 3 = some sHead from rfl) q (27 + 4 * ln) (by omega) (sz q) ((congrFun (xup_n _ _ (by omega)) _).trans ((hsz q (by omega)).1)) (hsz q (by omega)).2 (S ln) (xTx_up (xTx_Y (xYok_3 xYok_f _) (show ln < 6 by omega) (hTs ln hl)) (show (xup xYf 3 (some sHead)) 3 = some sHead from rfl)) (sp - sp / 10 * 10) (hSpin (S ln) n (sp / 10) (hStd (I (17 + 2 * i)))) (I (51 + 2 * q + 1)) (xup_s _ _ _) (xup_n _ _ (by omega))) lk_X_firstOtherwise ml_X_260 (xm_obj (y0 (xYok_3 xYok_f _))) rfl rfl (Nat.le_of_ble_eq_true rfl) (xRok (d' := d - 1) (by omega) (by decide)) ⟨Nat.le_refl _, Nat.le_refl _⟩ d_X_whose_80 rfl ?_
    rw [xup_up]
    refine X_if_ge (tgt := 95) d_X_whose_83 (by decide) (fun c_2 => ?_) (fun c_2 => ?_)
    ·
      refine X_iinc d_X_whose_95 rfl (v := (nI i) + 1) rfl (by decide) [1, 2, 3, 4, 5, 0] (L' := [(0, .ref (xg G 0)), (1, .int (nI q)), (2, .int n), (3, .int sp), (5, .int b), (6, .int ((nI i) + 1))]) rfl ?_
      refine X_goto (tgt := 38) d_X_whose_98 (by decide) ?_
      simp only [nI_1]
      exact ih (i + 1) _ _ (hOK_FO _ _ _ _ _ (hOK_spin _ _ _ (hOK_sd (hR _ (by omega))))).2 (by omega) (by rw [hr]; simp [sBits, tUnl, c_2, Int32.not_lt.mpr c_2])
    ·
      refine X_iload d_X_whose_86 rfl ?_
      refine X_iconst (v := 1) d_X_whose_88 rfl ?_
      refine X_iload d_X_whose_89 rfl ?_
      refine X_ishl d_X_whose_91 ?_
      refine X_ior d_X_whose_92 ?_
      refine X_istore d_X_whose_93 (by decide) [1, 2, 3, 4, 0, 5] (L' := [(0, .ref (xg G 0)), (1, .int (nI q)), (2, .int n), (3, .int sp), (5, .int (b ||| (1 <<< ((nI i) &&& 31)))), (6, .int (nI i))]) rfl ?_
      refine X_iinc d_X_whose_95 rfl (v := (nI i) + 1) rfl (by decide) [1, 2, 3, 4, 5, 0] (L' := [(0, .ref (xg G 0)), (1, .int (nI q)), (2, .int n), (3, .int sp), (5, .int (b ||| (1 <<< ((nI i) &&& 31)))), (6, .int ((nI i) + 1))]) rfl ?_
      refine X_goto (tgt := 38) d_X_whose_98 (by decide) ?_
      simp only [nI_1]
      exact ih (i + 1) _ _ (hOK_FO _ _ _ _ _ (hOK_spin _ _ _ (hOK_sd (hR _ (by omega))))).2 (by omega) (by rw [hr]; simp [sBits, tUnl, c_2, Int32.not_le.mp c_2])
theorem c_X_whose (l : Launch) (G : xG) {d : Nat} (nn : Nat) (I : xI) (hd : 11 ≤ d) (hc tc ln : Nat) (S : Nat → xSay) (hK : cOK I hc tc ln S) (sz : Nat → Nat) (hsz : sOK I sz) (s n sp : Int32) : XM l G d y_X_whose b_X_whose 7 (some .int) 0 0 xK0 [.ref (xg G 0), .int s, .int n, .int sp] nn (xm G xYf I) (some (.int (aWhose hc (S ln) (fun i => I (17 + 2 * i)) (fun q => I (51 + 2 * q) 1) sz (fun q => I (51 + 2 * q + 1)) s n sp))) nn (xm G xYf (I)) := by
  obtain ⟨⟨h10, h5⟩, ⟨h11, h6⟩, ⟨h12, hl⟩, hTs, hR⟩ := id hK
  refine XM.of (by decide) (Nat.le_of_ble_eq_true rfl) (L := [(0, .ref (xg G 0)), (1, .int s), (2, .int n), (3, .int sp)]) rfl ?_
  refine X_aload_n d_X_whose_0 rfl rfl ?_
  refine X_iload_n d_X_whose_1 rfl rfl ?_
  refine X_callV (v := .int (rSheet (fun q => I (51 + 2 * q) 1) s)) (rest := []) (c_X_refusalOfSheet l G nn I (by omega) hc tc ln S hK s) lk_X_refusalOfSheet ml_X_264 (xm_obj (y0 xYok_f)) rfl rfl (Nat.le_of_ble_eq_true rfl) (xRok (d' := d - 1) (by omega) (by decide)) ⟨Nat.le_refl _, Nat.le_refl _⟩ d_X_whose_2 rfl ?_
  refine X_istore d_X_whose_5 (by decide) [1, 2, 3, 4, 0] (L' := [(0, .ref (xg G 0)), (1, .int s), (2, .int n), (3, .int sp), (4, .int (rSheet (fun q => I (51 + 2 * q) 1) s))]) rfl ?_
  refine X_iload d_X_whose_7 rfl ?_
  refine X_if_eq (tgt := 15) d_X_whose_9 (by decide) (fun c_1 => ?_) (fun c_1 => ?_)
  ·
    obtain ⟨q, hq, rfl, hsq⟩ := rSheet_ok c_1
    refine X_knowH (a := 3) rfl (fun f3 hf3 => ?_)
    refine X_iload_n d_X_whose_15 rfl rfl ?_
    refine X_callS (v := .int (xb (xin n (-40) 40))) (rest := []) (c_X_isTurns l G nn _ (by omega) n) lk_X_isTurns ml_X_169 rfl (Nat.le_of_ble_eq_true rfl) (xRok (d' := d - 1) (by omega) (by decide)) ⟨Nat.le_refl _, Nat.le_refl _⟩ d_X_whose_16 rfl ?_
    refine X_ifb_eq (tgt := 29) d_X_whose_19 (by decide) (fun c_2 => ?_) (fun c_2 => ?_)
    ·
      refine X_bipush (v := -7) d_X_whose_29 rfl ?_
      exact X_iret rfl (congrArg (fun q => some (Value.int q)) (by first | (simp [aWhose, c_1, nI_cl (show q < 2 ^ 31 by omega), c_2, xl_1_0, xl_1_1, xl_2_0, xl_2_1, xl_2_2, xl_3_0, xl_3_1, xl_3_2, xl_3_3]; done) | (exfalso; simp_all; done) | (clear hTs hR hK; simp_all [aWhose, nI_cl (show q < 2 ^ 31 by omega)]; done))) (xle_3 (fun k hk => by simp only [xup_n _ _ hk])) d_X_whose_31
    ·
      refine X_iload_n d_X_whose_22 rfl rfl ?_
      refine X_callS (v := .int (xb (xsp sp))) (rest := []) (c_X_isSpeedPace l G nn _ (by omega) sp) lk_X_isSpeedPace ml_X_241 rfl (Nat.le_of_ble_eq_true rfl) (xRok (d' := d - 1) (by omega) (by decide)) ⟨Nat.le_refl _, Nat.le_refl _⟩ d_X_whose_23 rfl ?_
      refine X_ifb_ne (tgt := 32) d_X_whose_26 (by decide) (fun c_3 => ?_) (fun c_3 => ?_)
      ·
        refine X_iconst (v := 0) d_X_whose_32 rfl ?_
        refine X_istore d_X_whose_33 (by decide) [1, 2, 3, 4, 5, 0] (L' := [(0, .ref (xg G 0)), (1, .int (nI q)), (2, .int n), (3, .int sp), (4, .int (rSheet (fun q => I (51 + 2 * q) 1) (nI q))), (5, .int 0)]) rfl ?_
        refine X_iconst (v := 0) d_X_whose_35 rfl ?_
        refine X_istore d_X_whose_36 (by decide) [1, 2, 3, 4, 5, 6, 0] (L' := [(0, .ref (xg G 0)), (1, .int (nI q)), (2, .int n), (3, .int sp), (4, .int (rSheet (fun q => I (51 + 2 * q) 1) (nI q))), (5, .int 0), (6, .int 0)]) rfl ?_
        refine X_sub [0, 1, 2, 3, 5, 6] (L' := [(0, .ref (xg G 0)), (1, .int (nI q)), (2, .int n), (3, .int sp), (5, .int 0), (6, .int 0)]) rfl ?_
        exact w_X_whose l G nn I (by omega) hc tc ln S hK sz hsz q n sp hq (xin_abs c_2) _ hc 0 _ _ hf3 (by omega) (by first | (simp [aWhose, c_1, nI_cl (show q < 2 ^ 31 by omega), c_2, c_3, xl_1_0, xl_1_1, xl_2_0, xl_2_1, xl_2_2]; done) | (clear hTs hR hK; simp_all [aWhose, nI_cl (show q < 2 ^ 31 by omega)]; done))
      ·
        refine X_bipush (v := -7) d_X_whose_29 rfl ?_
        exact X_iret rfl (congrArg (fun q => some (Value.int q)) (by first | (simp [aWhose, c_1, nI_cl (show q < 2 ^ 31 by omega), c_2, c_3, xl_1_0, xl_1_1, xl_2_0, xl_2_1, xl_2_2, xl_3_0, xl_3_1, xl_3_2, xl_3_3]; done) | (exfalso; simp_all; done) | (clear hTs hR hK; simp_all [aWhose, nI_cl (show q < 2 ^ 31 by omega)]; done))) (xle_3 (fun k hk => by simp only [xup_n _ _ hk])) d_X_whose_31
  ·
    refine X_iload d_X_whose_12 rfl ?_
    exact X_iret rfl (congrArg (fun q => some (Value.int q)) (by first | (simp [aWhose, c_1, xl_1_0, xl_1_1, xl_2_0, xl_2_1, xl_2_2, xl_3_0, xl_3_1, xl_3_2, xl_3_3]; done) | (exfalso; simp_all; done) | (clear hTs hR hK; simp_all [aWhose]; done))) (xle_rf _) d_X_whose_14
