def xNext (lot : Int64) : Int64 := lot * 48271 - lot * 48271 / 2147483647 * 2147483647
def xEyes (op : Int32) (lot : Int64) : Int32 := if 0 ≤ lg_cmp (lot - lot / 100 * 100) (op / 10).toInt64 then 1 else 0
def sDraw (L : xSay) (op : Int32) : Nat → Int64 → (Nat → Int32) → Nat → Int32
  | 0, _, f => f
  | k + 1, lot, f => sDraw L op k (xNext lot) (hStep L (op - op / 10 * 10) (xEyes op (xNext lot)) f)
theorem hOK_draw (L : xSay) (op : Int32) : ∀ (k : Nat) (lot : Int64) {f : Nat → Int32}, hOK f → hOK (sDraw L op k lot f)
  | 0, _, _, h => h
  | k + 1, lot, _, h => hOK_draw L op k _ (hOK_step L _ _ h)
def Q_X_thinkDrawn (l : Launch) (G : xG) (d nn : Nat) (I : xI) (seed op : Int32) (i T : Nat) (F : Nat → Int32) (j : Nat) (lot : Int64) (f : Nat → Int32) : Prop := XW l G (xR d 0 0) y_X_thinkDrawn b_X_thinkDrawn 8 none xK0 (xZ G nn (xm G (xup xYf 3 (some sHead)) (xup I 3 F)) none 0 0) nn (xm G (xup xYf 3 (some sHead)) (xup I 3 f)) 0 0 14 [(0, .ref (xg G 0)), (1, .ref (xg G (17 + 2 * i))), (2, .int seed), (3, .int (nI T)), (4, .int op), (5, .long lot), (7, .int (nI j))] []
theorem w_X_thinkDrawn (l : Launch) (G : xG) {d : Nat} (nn : Nat) (I : xI) (hd : 9 ≤ d) (hc tc ln : Nat) (S : Nat → xSay) (hK : cOK I hc tc ln S) (seed op : Int32) (i T : Nat) (hT31 : T < 2 ^ 31) (F : Nat → Int32) : ∀ (k j : Nat) (lot : Int64) (f : Nat → Int32), hOK f → j + k = T → F = sDraw (S ln) op k lot f → Q_X_thinkDrawn l G d nn I seed op i T F j lot f := by
  obtain ⟨⟨h10, h5⟩, ⟨h11, h6⟩, ⟨h12, hl⟩, hTs, hR⟩ := id hK
  intro k
  induction k with
  | zero =>
    intro j lot f hz_f hk hF
    unfold Q_X_thinkDrawn
    refine X_iload d_X_thinkDrawn_14 rfl ?_
    refine X_iload_n d_X_thinkDrawn_16 rfl rfl ?_
    refine X_icmp_ge (tgt := 75) d_X_thinkDrawn_17 (by decide) (fun _ => ?_) (fun c_1 => absurd c_1 (not_not_intro (show nI T ≤ nI j from nI_le (by omega) (by omega))))
    exact X_vret rfl rfl (xle_of (by rw [hF]; rfl)) d_X_thinkDrawn_75
  | succ k ih =>
    intro j lot f hz_f hk hF
    unfold Q_X_thinkDrawn
    refine X_iload d_X_thinkDrawn_14 rfl ?_
    refine X_iload_n d_X_thinkDrawn_16 rfl rfl ?_
    refine X_icmp_ge (tgt := 75) d_X_thinkDrawn_17 (by decide) (fun c_1 => absurd c_1 (show ¬ nI T ≤ nI j from nI_ge (by omega) (by omega))) (fun _ => ?_)
    refine X_lload d_X_thinkDrawn_20 rfl ?_
    refine X_ldc2 cs_X_327 d_X_thinkDrawn_22 ?_
    refine X_lmul d_X_thinkDrawn_25 ?_
    refine X_ldc2 cs_X_329 d_X_thinkDrawn_26 ?_
    refine X_lrem d_X_thinkDrawn_29 (by decide) ?_
    refine X_lstore d_X_thinkDrawn_30 (by decide) [1, 2, 3, 4, 5, 0, 6] (L' := [(0, .ref (xg G 0)), (1, .ref (xg G (17 + 2 * i))), (2, .int seed), (3, .int (nI T)), (4, .int op), (5, .long ((lot * 48271) - (lot * 48271) / 2147483647 * 2147483647)), (7, .int (nI j))]) rfl ?_
    refine X_aload_n d_X_thinkDrawn_32 rfl rfl ?_
    refine X_getR (r := 3) fg_X_19 (y0 (xYok_3 xYok_f _)) rfl d_X_thinkDrawn_33 ?_
    refine X_aload_n d_X_thinkDrawn_36 rfl rfl ?_
    refine X_callV (v := .ref (xg G (27 + 4 * ln))) (rest := [.ref (xg G 3)]) (c_X_law l G nn (xup xYf 3 (some sHead)) (xup I 3 f) (by omega) (xYok_3 xYok_f _) ln (by omega) ((congrFun (xup_n _ _ (by decide)) _).trans (h12))) lk_X_law ml_X_120 (xm_obj (y0 (xYok_3 xYok_f _))) rfl rfl (Nat.le_of_ble_eq_true rfl) (xRok (d' := d - 1) (by omega) (by decide)) ⟨Nat.le_refl _, Nat.le_refl _⟩ d_X_thinkDrawn_37 rfl ?_
    refine X_iload d_X_thinkDrawn_40 rfl ?_
    refine X_bipush (v := 10) d_X_thinkDrawn_42 rfl ?_
    refine X_irem d_X_thinkDrawn_44 (by decide) ?_
    refine X_lload d_X_thinkDrawn_45 rfl ?_
    refine X_ldc2 cs_X_331 d_X_thinkDrawn_47 ?_
    refine X_lrem d_X_thinkDrawn_50 (by decide) ?_
    refine X_iload d_X_thinkDrawn_51 rfl ?_
    refine X_bipush (v := 10) d_X_thinkDrawn_53 rfl ?_
    refine X_idiv d_X_thinkDrawn_55 (by decide) ?_
    refine X_i2l d_X_thinkDrawn_56 ?_
    refine X_lcmp d_X_thinkDrawn_57 ?_
    refine X_if_ge (tgt := 65) d_X_thinkDrawn_58 (by decide) (fun c_2 => ?_) (fun c_2 => ?_)
    ·
      refine X_iconst (v := 1) d_X_thinkDrawn_65 rfl ?_
      refine X_callVv (rest := []) (k_Head_step l G nn (xup xYf 3 (some sHead)) (xup I 3 f) (by omega) 3 (show (xup xYf 3 (some sHead)) 3 = some sHead from rfl) (27 + 4 * ln) (S ln) (xTx_up (xTx_Y (xYok_3 xYok_f _) (show ln < 6 by omega) (hTs ln hl)) (show (xup xYf 3 (some sHead)) 3 = some sHead from rfl)) (op - op / 10 * 10) 1 f (xup_s _ _ _)) lk_Head_step ml_X_271 (xm_obj (show (xup xYf 3 (some sHead)) 3 = some sHead from rfl)) rfl rfl (Nat.le_of_ble_eq_true rfl) (xRok (d' := d - 1) (by omega) (by decide)) ⟨Nat.le_refl _, Nat.le_refl _⟩ d_X_thinkDrawn_66 rfl ?_
      rw [xup_up]
      refine X_iinc d_X_thinkDrawn_69 rfl (v := (nI j) + 1) rfl (by decide) [1, 2, 3, 4, 5, 6, 0] (L' := [(0, .ref (xg G 0)), (1, .ref (xg G (17 + 2 * i))), (2, .int seed), (3, .int (nI T)), (4, .int op), (5, .long ((lot * 48271) - (lot * 48271) / 2147483647 * 2147483647)), (7, .int ((nI j) + 1))]) rfl ?_
      refine X_goto (tgt := 14) d_X_thinkDrawn_72 (by decide) ?_
      simp only [nI_1]
      exact ih (j + 1) _ _ (hOK_step _ _ _ hz_f) (by omega) (by rw [hF]; simp [sDraw, xNext, xEyes, c_2, Int32.not_lt.mpr c_2])
    ·
      refine X_iconst (v := 0) d_X_thinkDrawn_61 rfl ?_
      refine X_goto (tgt := 66) d_X_thinkDrawn_62 (by decide) ?_
      refine X_callVv (rest := []) (k_Head_step l G nn (xup xYf 3 (some sHead)) (xup I 3 f) (by omega) 3 (show (xup xYf 3 (some sHead)) 3 = some sHead from rfl) (27 + 4 * ln) (S ln) (xTx_up (xTx_Y (xYok_3 xYok_f _) (show ln < 6 by omega) (hTs ln hl)) (show (xup xYf 3 (some sHead)) 3 = some sHead from rfl)) (op - op / 10 * 10) 0 f (xup_s _ _ _)) lk_Head_step ml_X_271 (xm_obj (show (xup xYf 3 (some sHead)) 3 = some sHead from rfl)) rfl rfl (Nat.le_of_ble_eq_true rfl) (xRok (d' := d - 1) (by omega) (by decide)) ⟨Nat.le_refl _, Nat.le_refl _⟩ d_X_thinkDrawn_66 rfl ?_
      rw [xup_up]
      refine X_iinc d_X_thinkDrawn_69 rfl (v := (nI j) + 1) rfl (by decide) [1, 2, 3, 4, 5, 6, 0] (L' := [(0, .ref (xg G 0)), (1, .ref (xg G (17 + 2 * i))), (2, .int seed), (3, .int (nI T)), (4, .int op), (5, .long ((lot * 48271) - (lot * 48271) / 2147483647 * 2147483647)), (7, .int ((nI j) + 1))]) rfl ?_
      refine X_goto (tgt := 14) d_X_thinkDrawn_72 (by decide) ?_
      simp only [nI_1]
      exact ih (j + 1) _ _ (hOK_step _ _ _ hz_f) (by omega) (by rw [hF]; simp [sDraw, xNext, xEyes, c_2, Int32.not_le.mp c_2])
theorem k_X_thinkDrawn (l : Launch) (G : xG) {d : Nat} (nn : Nat) (I : xI) (hd : 9 ≤ d) (hc tc ln : Nat) (S : Nat → xSay) (hK : cOK I hc tc ln S) (i : Nat) (hi : i < 5) (seed seconds op : Int32) (hs : ¬ seconds < 0) (f3 g : Nat → Int32) (hf3 : hZ f3) (hg : I (17 + 2 * i) = g) : XM l G d y_X_thinkDrawn b_X_thinkDrawn 8 none 0 0 xK0 [.ref (xg G 0), .ref (xg G (17 + 2 * i)), .int seed, .int seconds, .int op] nn (xm G (xup xYf 3 (some sHead)) (xup I 3 f3)) none nn (xm G (xup xYf 3 (some sHead)) (xup I 3 (sDraw (S ln) op seconds.toNatClampNeg (seed + 1).toInt64 (hStd g)))) := by
  subst hg
  obtain ⟨⟨h10, h5⟩, ⟨h11, h6⟩, ⟨h12, hl⟩, hTs, hR⟩ := id hK
  obtain ⟨T, hT31, rfl⟩ := nI_of hs
  rw [nI_cl hT31]
  refine XM.of (by decide) (Nat.le_of_ble_eq_true rfl) (L := [(0, .ref (xg G 0)), (1, .ref (xg G (17 + 2 * i))), (2, .int seed), (3, .int (nI T)), (4, .int op)]) rfl ?_
  refine X_aload_n d_X_thinkDrawn_0 rfl rfl ?_
  refine X_aload_n d_X_thinkDrawn_1 rfl rfl ?_
  refine X_callVv (rest := []) (k_X_think l G nn (xup xYf 3 (some sHead)) (xup I 3 f3) (by omega) (xYok_3 xYok_f _) (show (xup xYf 3 (some sHead)) 3 = some sHead from rfl) (17 + 2 * i) (yH (xYok_3 xYok_f _) (show i < 5 by omega)) (by omega) f3 (I (17 + 2 * i)) (xup_s _ _ _) (xup_n _ _ (by omega)) (hR _ (by omega)) hf3) lk_X_think ml_X_205 (xm_obj (y0 (xYok_3 xYok_f _))) rfl rfl (Nat.le_of_ble_eq_true rfl) (xRok (d' := d - 1) (by omega) (by decide)) ⟨Nat.le_refl _, Nat.le_refl _⟩ d_X_thinkDrawn_2 rfl ?_
  rw [xup_up]
  refine X_iload_n d_X_thinkDrawn_5 rfl rfl ?_
  refine X_iconst (v := 1) d_X_thinkDrawn_6 rfl ?_
  refine X_iadd d_X_thinkDrawn_7 ?_
  refine X_i2l d_X_thinkDrawn_8 ?_
  refine X_lstore d_X_thinkDrawn_9 (by decide) [1, 2, 3, 4, 5, 0] (L' := [(0, .ref (xg G 0)), (1, .ref (xg G (17 + 2 * i))), (2, .int seed), (3, .int (nI T)), (4, .int op), (5, .long ((seed + 1).toInt64))]) rfl ?_
  refine X_iconst (v := 0) d_X_thinkDrawn_11 rfl ?_
  refine X_istore d_X_thinkDrawn_12 (by decide) [1, 2, 3, 4, 5, 6, 0] (L' := [(0, .ref (xg G 0)), (1, .ref (xg G (17 + 2 * i))), (2, .int seed), (3, .int (nI T)), (4, .int op), (5, .long ((seed + 1).toInt64)), (7, .int 0)]) rfl ?_
  exact w_X_thinkDrawn l G nn I (by omega) hc tc ln S hK seed op i T hT31 _ T 0 _ _ (hOK_sd (hR _ (by omega))) (by omega) rfl
def aDrawn (hc : Nat) (L : xSay) (R : Nat → Nat → Int32) (seed h sec op what : Int32) : Int32 := if xin h 0 (nI hc - 1) = true then (if xin seed 0 99999 = true ∧ xin sec 0 60 = true ∧ xop op = true ∧ xin what 0 2 = true then (if what = 0 then sDraw L op sec.toNatClampNeg (seed + 1).toInt64 (hStd (R h.toNatClampNeg)) 6 else if what = 1 then sDraw L op sec.toNatClampNeg (seed + 1).toInt64 (hStd (R h.toNatClampNeg)) 5 else sDraw L op sec.toNatClampNeg (seed + 1).toInt64 (hStd (R h.toNatClampNeg)) 7) else -100007) else -100005
theorem c_X_drawn (l : Launch) (G : xG) {d : Nat} (nn : Nat) (I : xI) (hd : 11 ≤ d) (hc tc ln : Nat) (S : Nat → xSay) (hK : cOK I hc tc ln S) (seed h sec op what : Int32) : XM l G d y_X_drawn b_X_drawn 6 (some .int) 0 0 xK0 [.ref (xg G 0), .int seed, .int h, .int sec, .int op, .int what] nn (xm G xYf I) (some (.int (aDrawn hc (S ln) (fun i => I (17 + 2 * i)) seed h sec op what))) nn (xm G xYf (I)) := by
  obtain ⟨⟨h10, h5⟩, ⟨h11, h6⟩, ⟨h12, hl⟩, hTs, hR⟩ := id hK
  refine XM.of (by decide) (Nat.le_of_ble_eq_true rfl) (L := [(0, .ref (xg G 0)), (1, .int seed), (2, .int h), (3, .int sec), (4, .int op), (5, .int what)]) rfl ?_
  refine X_aload_n d_X_drawn_0 rfl rfl ?_
  refine X_iload_n d_X_drawn_1 rfl rfl ?_
  refine X_callV (v := .int (xb (xin h 0 (nI hc - 1)))) (rest := []) (c_X_isHead l G nn xYf I (by omega) xYok_f h (nI hc) (h10)) lk_X_isHead ml_X_113 (xm_obj (y0 xYok_f)) rfl rfl (Nat.le_of_ble_eq_true rfl) (xRok (d' := d - 1) (by omega) (by decide)) ⟨Nat.le_refl _, Nat.le_refl _⟩ d_X_drawn_2 rfl ?_
  refine X_ifb_ne (tgt := 11) d_X_drawn_5 (by decide) (fun c_1 => ?_) (fun c_1 => ?_)
  ·
    obtain ⟨i, hi, rfl⟩ := cHead h5 c_1
    refine X_iload_n d_X_drawn_11 rfl rfl ?_
    refine X_iconst (v := 0) d_X_drawn_12 rfl ?_
    refine X_ldc cs_X_245 d_X_drawn_13 ?_
    refine X_callS (v := .int (xb (xin seed 0 99999))) (rest := []) (c_X_within l G nn _ (by omega) seed 0 99999) lk_X_within ml_X_105 rfl (Nat.le_of_ble_eq_true rfl) (xRok (d' := d - 1) (by omega) (by decide)) ⟨Nat.le_refl _, Nat.le_refl _⟩ d_X_drawn_15 rfl ?_
    refine X_ifb_eq (tgt := 46) d_X_drawn_18 (by decide) (fun c_2 => ?_) (fun c_2 => ?_)
    ·
      refine X_ldc cs_X_149 d_X_drawn_46 ?_
      exact X_iret rfl (congrArg (fun q => some (Value.int q)) (by first | (simp [aDrawn, c_1, nI_cl (show i < 2 ^ 31 by omega), c_2, xl_1_0, xl_1_1, xl_2_0, xl_2_1, xl_2_2, xl_3_0, xl_3_1, xl_3_2, xl_3_3]; done) | (exfalso; simp_all; done) | (clear hTs hR hK; simp_all [aDrawn, nI_cl (show i < 2 ^ 31 by omega)]; done))) (xle_rf _) d_X_drawn_48
    ·
      refine X_iload_n d_X_drawn_21 rfl rfl ?_
      refine X_callS (v := .int (xb (xin sec 0 60))) (rest := []) (c_X_isSeconds l G nn _ (by omega) sec) lk_X_isSeconds ml_X_185 rfl (Nat.le_of_ble_eq_true rfl) (xRok (d' := d - 1) (by omega) (by decide)) ⟨Nat.le_refl _, Nat.le_refl _⟩ d_X_drawn_22 rfl ?_
      refine X_ifb_eq (tgt := 46) d_X_drawn_25 (by decide) (fun c_3 => ?_) (fun c_3 => ?_)
      ·
        refine X_ldc cs_X_149 d_X_drawn_46 ?_
        exact X_iret rfl (congrArg (fun q => some (Value.int q)) (by first | (simp [aDrawn, c_1, nI_cl (show i < 2 ^ 31 by omega), c_2, c_3, xl_1_0, xl_1_1, xl_2_0, xl_2_1, xl_2_2, xl_3_0, xl_3_1, xl_3_2, xl_3_3]; done) | (exfalso; simp_all; done) | (clear hTs hR hK; simp_all [aDrawn, nI_cl (show i < 2 ^ 31 by omega)]; done))) (xle_rf _) d_X_drawn_48
      ·
        refine X_iload d_X_drawn_28 rfl ?_
        refine X_callS (v := .int (xb (xop op))) (rest := []) (c_X_isOddsPace l G nn _ (by omega) op) lk_X_isOddsPace ml_X_277 rfl (Nat.le_of_ble_eq_true rfl) (xRok (d' := d - 1) (by omega) (by decide)) ⟨Nat.le_refl _, Nat.le_refl _⟩ d_X_drawn_30 rfl ?_
        refine X_ifb_eq (tgt := 46) d_X_drawn_33 (by decide) (fun c_4 => ?_) (fun c_4 => ?_)
        ·
          refine X_ldc cs_X_149 d_X_drawn_46 ?_
          exact X_iret rfl (congrArg (fun q => some (Value.int q)) (by first | (simp [aDrawn, c_1, nI_cl (show i < 2 ^ 31 by omega), c_2, c_3, c_4, xl_1_0, xl_1_1, xl_2_0, xl_2_1, xl_2_2, xl_3_0, xl_3_1, xl_3_2, xl_3_3]; done) | (exfalso; simp_all; done) | (clear hTs hR hK; simp_all [aDrawn, nI_cl (show i < 2 ^ 31 by omega)]; done))) (xle_rf _) d_X_drawn_48
        ·
          refine X_iload d_X_drawn_36 rfl ?_
          refine X_iconst (v := 0) d_X_drawn_38 rfl ?_
          refine X_iconst (v := 2) d_X_drawn_39 rfl ?_
          refine X_callS (v := .int (xb (xin what 0 2))) (rest := []) (c_X_within l G nn _ (by omega) what 0 2) lk_X_within ml_X_105 rfl (Nat.le_of_ble_eq_true rfl) (xRok (d' := d - 1) (by omega) (by decide)) ⟨Nat.le_refl _, Nat.le_refl _⟩ d_X_drawn_40 rfl ?_
          refine X_ifb_ne (tgt := 49) d_X_drawn_43 (by decide) (fun c_5 => ?_) (fun c_5 => ?_)
          ·
            refine X_knowH (a := 3) rfl (fun f3 hf3 => ?_)
            refine X_aload_n d_X_drawn_49 rfl rfl ?_
            refine X_aload_n d_X_drawn_50 rfl rfl ?_
            refine X_iload_n d_X_drawn_51 rfl rfl ?_
            refine X_callV (v := .ref (xg G (17 + 2 * i))) (rest := [.ref (xg G 0)]) (c_X_headAt l G nn (xup xYf 3 (some sHead)) (xup I 3 f3) (by omega) (xYok_3 xYok_f _) i (by omega)) lk_X_headAt ml_X_124 (xm_obj (y0 (xYok_3 xYok_f _))) rfl rfl (Nat.le_of_ble_eq_true rfl) (xRok (d' := d - 1) (by omega) (by decide)) ⟨Nat.le_refl _, Nat.le_refl _⟩ d_X_drawn_52 rfl ?_
            refine X_iload_n d_X_drawn_55 rfl rfl ?_
            refine X_iload_n d_X_drawn_56 rfl rfl ?_
            refine X_iload d_X_drawn_57 rfl ?_
            refine X_callVv (rest := []) (k_X_thinkDrawn l G nn I (by omega) hc tc ln S hK i (by omega) seed sec op (xin_nn c_3) f3 (I (17 + 2 * i)) hf3 rfl) lk_X_thinkDrawn ml_X_280 (xm_obj (y0 (xYok_3 xYok_f _))) rfl rfl (Nat.le_of_ble_eq_true rfl) (xRok (d' := d - 1) (by omega) (by decide)) ⟨Nat.le_refl _, Nat.le_refl _⟩ d_X_drawn_59 rfl ?_
            refine X_iload d_X_drawn_62 rfl ?_
            by_cases c_6 : what = 0
            ·
              refine X_lookup (off := 28) (tgt := 92) d_X_drawn_64 (by decide) (by rw [c_6]; rfl) (by decide) ?_
              refine X_aload_n d_X_drawn_92 rfl rfl ?_
              refine X_getR (r := 3) fg_X_19 (y0 (xYok_3 xYok_f _)) rfl d_X_drawn_93 ?_
              refine X_getI (v := (sDraw (S ln) op (sec).toNatClampNeg (seed + 1).toInt64 (hStd (I (17 + 2 * i)))) 6) fg_X_159 (show (xup xYf 3 (some sHead)) 3 = some sHead from rfl) rfl (congrFun (xup_s _ _ _) _) d_X_drawn_96 ?_
              exact X_iret rfl (congrArg (fun q => some (Value.int q)) (by first | (simp [aDrawn, c_1, nI_cl (show i < 2 ^ 31 by omega), c_2, c_3, c_4, c_5, c_6, xl_1_0, xl_1_1, xl_2_0, xl_2_1, xl_2_2, xl_3_0, xl_3_1, xl_3_2, xl_3_3]; done) | (exfalso; simp_all; done) | (clear hTs hR hK; simp_all [aDrawn, nI_cl (show i < 2 ^ 31 by omega)]; done))) (xle_3 (fun k hk => by simp only [xup_n _ _ hk])) d_X_drawn_99
            by_cases c_7 : what = 1
            ·
              refine X_lookup (off := 36) (tgt := 100) d_X_drawn_64 (by decide) (by rw [c_7]; rfl) (by decide) ?_
              refine X_aload_n d_X_drawn_100 rfl rfl ?_
              refine X_getR (r := 3) fg_X_19 (y0 (xYok_3 xYok_f _)) rfl d_X_drawn_101 ?_
              refine X_getI (v := (sDraw (S ln) op (sec).toNatClampNeg (seed + 1).toInt64 (hStd (I (17 + 2 * i)))) 5) fg_X_156 (show (xup xYf 3 (some sHead)) 3 = some sHead from rfl) rfl (congrFun (xup_s _ _ _) _) d_X_drawn_104 ?_
              exact X_iret rfl (congrArg (fun q => some (Value.int q)) (by first | (simp [aDrawn, c_1, nI_cl (show i < 2 ^ 31 by omega), c_2, c_3, c_4, c_5, c_6, c_7, xl_1_0, xl_1_1, xl_2_0, xl_2_1, xl_2_2, xl_3_0, xl_3_1, xl_3_2, xl_3_3]; done) | (exfalso; simp_all; done) | (clear hTs hR hK; simp_all [aDrawn, nI_cl (show i < 2 ^ 31 by omega)]; done))) (xle_3 (fun k hk => by simp only [xup_n _ _ hk])) d_X_drawn_107
            refine X_lookup (off := 44) (tgt := 108) d_X_drawn_64 (by decide) (by show Op.lookupswitch.offset [(0, 28), (1, 36)] 44 (what).toInt = _; rw [lv_osw (a := 0) c_6 rfl, lv_osw (a := 1) c_7 rfl]; rfl) (by decide) ?_
            refine X_aload_n d_X_drawn_108 rfl rfl ?_
            refine X_getR (r := 3) fg_X_19 (y0 (xYok_3 xYok_f _)) rfl d_X_drawn_109 ?_
            refine X_getI (v := (sDraw (S ln) op (sec).toNatClampNeg (seed + 1).toInt64 (hStd (I (17 + 2 * i)))) 7) fg_X_162 (show (xup xYf 3 (some sHead)) 3 = some sHead from rfl) rfl (congrFun (xup_s _ _ _) _) d_X_drawn_112 ?_
            refine X_if_eq (tgt := 122) d_X_drawn_115 (by decide) (fun c_8 => ?_) (fun c_8 => ?_)
            ·
              refine X_iconst (v := 0) d_X_drawn_122 rfl ?_
              exact X_iret rfl (congrArg (fun q => some (Value.int q)) (by first | (simp [aDrawn, c_1, nI_cl (show i < 2 ^ 31 by omega), c_2, c_3, c_4, c_5, c_6, c_7, c_8, xl_1_0, xl_1_1, xl_2_0, xl_2_1, xl_2_2, xl_3_0, xl_3_1, xl_3_2, xl_3_3]; done) | (exfalso; simp_all; done) | (clear hTs hR hK; simp_all [aDrawn, nI_cl (show i < 2 ^ 31 by omega)]; done))) (xle_3 (fun k hk => by simp only [xup_n _ _ hk])) d_X_drawn_123
            ·
              refine X_iconst (v := 1) d_X_drawn_118 rfl ?_
              refine X_goto (tgt := 123) d_X_drawn_119 (by decide) ?_
              have h71 : (sDraw (S ln) op (sec).toNatClampNeg (seed + 1).toInt64 (hStd (I (17 + 2 * i)))) 7 = 1 := (hOK_draw _ _ _ _ (hOK_sd (hR _ (by omega)))).1.resolve_left c_8
              exact X_iret rfl (congrArg (fun q => some (Value.int q)) (by first | (simp [aDrawn, c_1, nI_cl (show i < 2 ^ 31 by omega), c_2, c_3, c_4, c_5, c_6, c_7, c_8, h71, xl_1_0, xl_1_1, xl_2_0, xl_2_1, xl_2_2, xl_3_0, xl_3_1, xl_3_2, xl_3_3]; done) | (exfalso; simp_all; done) | (clear hTs hR hK; simp_all [aDrawn, nI_cl (show i < 2 ^ 31 by omega)]; done))) (xle_3 (fun k hk => by simp only [xup_n _ _ hk])) d_X_drawn_123
          ·
            refine X_ldc cs_X_149 d_X_drawn_46 ?_
            exact X_iret rfl (congrArg (fun q => some (Value.int q)) (by first | (simp [aDrawn, c_1, nI_cl (show i < 2 ^ 31 by omega), c_2, c_3, c_4, c_5, xl_1_0, xl_1_1, xl_2_0, xl_2_1, xl_2_2, xl_3_0, xl_3_1, xl_3_2, xl_3_3]; done) | (exfalso; simp_all; done) | (clear hTs hR hK; simp_all [aDrawn, nI_cl (show i < 2 ^ 31 by omega)]; done))) (xle_rf _) d_X_drawn_48
  ·
    refine X_ldc cs_X_139 d_X_drawn_8 ?_
    exact X_iret rfl (congrArg (fun q => some (Value.int q)) (by first | (simp [aDrawn, c_1, xl_1_0, xl_1_1, xl_2_0, xl_2_1, xl_2_2, xl_3_0, xl_3_1, xl_3_2, xl_3_3]; done) | (exfalso; simp_all; done) | (clear hTs hR hK; simp_all [aDrawn]; done))) (xle_rf _) d_X_drawn_10
def sGcd : Nat → Int32 → Int32 → Int32
  | 0, l, _ => l
  | k + 1, l, s => if s = 0 then l else sGcd k s (l - l / s * s)
def xGcd (a b : Int32) : Int32 := if 1 < sGcd 100 a b then sGcd 100 a b else 1
theorem xGcd_0 (a b : Int32) : ¬ xGcd a b = 0 := by
  unfold xGcd
  split
  · intro h; rename_i q; rw [h] at q; exact absurd q (by decide)
  · decide
def Q_X_greatestShared (l : Launch) (G : xG) (d nn : Nat) (M : xM) (a b r : Int32) (i : Nat) (x z : Int32) : Prop := XW l G (xR d 0 0) y_X_greatestShared b_X_greatestShared 6 (some .int) xK0 (xZ G nn M (some (.int r)) 0 0) nn M 0 0 7 [(0, .int a), (1, .int b), (2, .int x), (3, .int z), (4, .int (nI i))] []
theorem w_X_greatestShared (l : Launch) (G : xG) {d : Nat} (nn : Nat) (M : xM) (hd : 2 ≤ d) (a b r : Int32) : ∀ (k i : Nat) (x z : Int32), i + k = 100 → r = (if 1 < sGcd k x z then sGcd k x z else 1) → Q_X_greatestShared l G d nn M a b r i x z := by
  intro k
  induction k with
  | zero =>
    intro i x z hk hr
    unfold Q_X_greatestShared
    refine X_iload d_X_greatestShared_7 rfl ?_
    refine X_bipush (v := 100) d_X_greatestShared_9 rfl ?_
    refine X_icmp_ge (tgt := 34) d_X_greatestShared_11 (by decide) (fun _ => ?_) (fun c_1 => absurd c_1 (not_not_intro (show nI 100 ≤ nI i from nI_le (by omega) (by omega))))
    refine X_iconst (v := 1) d_X_greatestShared_34 rfl ?_
    refine X_iload_n d_X_greatestShared_35 rfl rfl ?_
    refine X_mmax ml_X_334 mt_max mi_math mc_max (xRm (by omega) (Nat.le_of_ble_eq_true rfl)) ⟨Nat.zero_le _, Nat.zero_le _⟩ d_X_greatestShared_36 ?_
    exact X_iret rfl (congrArg (fun q => some (Value.int q)) (by rw [hr]; first | rfl | (simp [sGcd]; done) | (simp [sGcd]; rfl))) (xle_rf _) d_X_greatestShared_39
  | succ k ih =>
    intro i x z hk hr
    unfold Q_X_greatestShared
    refine X_iload d_X_greatestShared_7 rfl ?_
    refine X_bipush (v := 100) d_X_greatestShared_9 rfl ?_
    refine X_icmp_ge (tgt := 34) d_X_greatestShared_11 (by decide) (fun c_1 => absurd c_1 (show ¬ nI 100 ≤ nI i from nI_ge (by omega) (by omega))) (fun _ => ?_)
    refine X_iload_n d_X_greatestShared_14 rfl rfl ?_
    refine X_if_eq (tgt := 34) d_X_greatestShared_15 (by decide) (fun c_2 => ?_) (fun c_2 => ?_)
    ·
      refine X_iconst (v := 1) d_X_greatestShared_34 rfl ?_
      refine X_iload_n d_X_greatestShared_35 rfl rfl ?_
      refine X_mmax ml_X_334 mt_max mi_math mc_max (xRm (by omega) (Nat.le_of_ble_eq_true rfl)) ⟨Nat.zero_le _, Nat.zero_le _⟩ d_X_greatestShared_36 ?_
      exact X_iret rfl (congrArg (fun q => some (Value.int q)) (by rw [hr]; first | rfl | (simp [sGcd, c_2]; done) | (simp [sGcd, c_2]; rfl))) (xle_rf _) d_X_greatestShared_39
    ·
      refine X_iload_n d_X_greatestShared_18 rfl rfl ?_
      refine X_iload_n d_X_greatestShared_19 rfl rfl ?_
      refine X_irem d_X_greatestShared_20 c_2 ?_
      refine X_istore d_X_greatestShared_21 (by decide) [1, 2, 3, 4, 5, 0] (L' := [(0, .int a), (1, .int b), (2, .int x), (3, .int z), (4, .int (nI i)), (5, .int (x - x / z * z))]) rfl ?_
      refine X_iload_n d_X_greatestShared_23 rfl rfl ?_
      refine X_istore_n d_X_greatestShared_24 rfl (by decide) [1, 2, 0, 3, 4, 5] (L' := [(0, .int a), (1, .int b), (2, .int z), (3, .int z), (4, .int (nI i)), (5, .int (x - x / z * z))]) rfl ?_
      refine X_iload d_X_greatestShared_25 rfl ?_
      refine X_istore_n d_X_greatestShared_27 rfl (by decide) [1, 2, 3, 0, 4, 5] (L' := [(0, .int a), (1, .int b), (2, .int z), (3, .int (x - x / z * z)), (4, .int (nI i)), (5, .int (x - x / z * z))]) rfl ?_
      refine X_iinc d_X_greatestShared_28 rfl (v := (nI i) + 1) rfl (by decide) [1, 2, 3, 4, 0, 5] (L' := [(0, .int a), (1, .int b), (2, .int z), (3, .int (x - x / z * z)), (4, .int ((nI i) + 1)), (5, .int (x - x / z * z))]) rfl ?_
      refine X_goto (tgt := 7) d_X_greatestShared_31 (by decide) ?_
      refine X_sub [0, 1, 2, 3, 4] (L' := [(0, .int a), (1, .int b), (2, .int z), (3, .int (x - x / z * z)), (4, .int ((nI i) + 1))]) rfl ?_
      simp only [nI_1]
      exact ih (i + 1) _ _ (by omega) (by rw [hr]; simp [sGcd, c_2])
theorem c_X_greatestShared (l : Launch) (G : xG) {d : Nat} (nn : Nat) (M : xM) (hd : 2 ≤ d) (a b : Int32) : XM l G d y_X_greatestShared b_X_greatestShared 6 (some .int) 0 0 xK0 [.int a, .int b] nn M (some (.int (xGcd a b))) nn M := by
  have hq := w_X_greatestShared l G nn M hd a b (xGcd a b) 100 0 a b (by omega) rfl
  unfold Q_X_greatestShared at hq
  refine XM.of (by decide) (Nat.le_of_ble_eq_true rfl) (L := [(0, .int a), (1, .int b)]) rfl ?_
  refine X_iload_n d_X_greatestShared_0 rfl rfl ?_
  refine X_istore_n d_X_greatestShared_1 rfl (by decide) [1, 2, 0] (L' := [(0, .int a), (1, .int b), (2, .int a)]) rfl ?_
  refine X_iload_n d_X_greatestShared_2 rfl rfl ?_
  refine X_istore_n d_X_greatestShared_3 rfl (by decide) [1, 2, 3, 0] (L' := [(0, .int a), (1, .int b), (2, .int a), (3, .int b)]) rfl ?_
  refine X_iconst (v := 0) d_X_greatestShared_4 rfl ?_
  refine X_istore d_X_greatestShared_5 (by decide) [1, 2, 3, 4, 0] (L' := [(0, .int a), (1, .int b), (2, .int a), (3, .int b), (4, .int 0)]) rfl ?_
  exact hq
def sOdds (L : xSay) (op seed sec wide : Int32) (f : Nat → Int32) : Nat → Nat → Int32 → Int32
  | 0, _, m => m
  | k + 1, i, m => sOdds L op seed sec wide f k (i + 1) (if xabs (sDraw L op sec.toNatClampNeg (seed + nI i + 1).toInt64 (hStd f) 6) ≤ wide then m + 1 else m)
def rOdds (part seeds m : Int32) : Int64 := ((if part = 0 then m else seeds) / xGcd m seeds).toInt64
def aOdds (hc : Nat) (L : xSay) (R : Nat → Nat → Int32) (seed ss h op wide part : Int32) : Int64 := if xin h 0 (nI hc - 1) = true ∧ xin seed 0 99999 = true ∧ xss ss = true then (if xop op = true ∧ xin wide 0 99999 = true ∧ xin part 0 1 = true then rOdds part (ss - ss / 100 * 100) (sOdds L op seed (ss / 100) wide (R h.toNatClampNeg) (ss - ss / 100 * 100).toNatClampNeg 0 0) else -4611686018427387904) else -4611686018427387904
theorem xss_s {v : Int32} (h : xss v = true) : ∃ T, T ≤ 40 ∧ v - v / 100 * 100 = nI T := by
  simp only [xss, Bool.and_eq_true] at h
  have h2 := xin_iff.mp h.2
  obtain ⟨T, hT, e⟩ := nI_of (x := v - v / 100 * 100) (by grind)
  rw [e] at h2
  exact ⟨T, (nI_leI hT (by decide)).mp h2.2, e⟩
def Q_X_odds (l : Launch) (G : xG) (d nn : Nat) (I : xI) (ln : Nat) (S : Nat → xSay) (i : Nat) (seed : Int32) (ss : Int32) (op : Int32) (wide : Int32) (part : Int32) (T : Nat) (r : Int64) (j : Nat) (m : Int32) (f : Nat → Int32) : Prop := XW l G (xR d 0 0) y_X_odds b_X_odds 10 (some .long) xK0 (xZ G nn (xm G xYf (I)) (some (.long r)) 0 0) nn (xm G (xup xYf 3 (some sHead)) (xup I 3 f)) 0 0 74 [(0, .ref (xg G 0)), (1, .int seed), (2, .int ss), (3, .int (nI i)), (4, .int op), (5, .int wide), (6, .int part), (7, .int (nI T)), (8, .int m), (9, .int (nI j))] []
theorem w_X_odds (l : Launch) (G : xG) {d : Nat} (nn : Nat) (I : xI) (hd : 11 ≤ d) (hc tc ln : Nat) (S : Nat → xSay) (hK : cOK I hc tc ln S) (i : Nat) (seed : Int32) (ss : Int32) (op : Int32) (wide : Int32) (part : Int32) (T : Nat) (hi : i < 5) (hss : ¬ ss / 100 < 0) (hT40 : T ≤ 40) (r : Int64) : ∀ (k j : Nat) (m : Int32) (f : Nat → Int32) (hy_f : hZ f), j + k = T → r = rOdds part (nI T) (sOdds (S ln) op seed (ss / 100) wide (I (17 + 2 * i)) k j m) → Q_X_odds l G d nn I ln S i seed ss op wide part T r j m f := by
  obtain ⟨⟨h10, h5⟩, ⟨h11, h6⟩, ⟨h12, hl⟩, hTs, hR⟩ := id hK
  intro k
  induction k with
  | zero =>
    intro j m f hy_f hk hr
    unfold Q_X_odds
    refine X_iload d_X_odds_74 rfl ?_
    refine X_iload d_X_odds_76 rfl ?_
    refine X_icmp_ge (tgt := 124) d_X_odds_78 (by decide) (fun _ => ?_) (fun c_1 => absurd c_1 (not_not_intro (show nI T ≤ nI j from nI_le (by omega) (by omega))))
    refine X_iload d_X_odds_124 rfl ?_
    refine X_iload d_X_odds_126 rfl ?_
    refine X_callS (v := .int (xGcd m (nI T))) (rest := []) (c_X_greatestShared l G nn _ (by omega) m (nI T)) lk_X_greatestShared ml_X_289 rfl (Nat.le_of_ble_eq_true rfl) (xRok (d' := d - 1) (by omega) (by decide)) ⟨Nat.le_refl _, Nat.le_refl _⟩ d_X_odds_128 rfl ?_
    refine X_istore d_X_odds_131 (by decide) [1, 2, 3, 4, 5, 6, 7, 8, 9, 0] (L' := [(0, .ref (xg G 0)), (1, .int seed), (2, .int ss), (3, .int (nI i)), (4, .int op), (5, .int wide), (6, .int part), (7, .int (nI T)), (8, .int m), (9, .int (xGcd m (nI T)))]) rfl ?_
    refine X_iload d_X_odds_133 rfl ?_
    refine X_if_ne (tgt := 143) d_X_odds_135 (by decide) (fun c_2 => ?_) (fun c_2 => ?_)
    ·
      refine X_iload d_X_odds_143 rfl ?_
      refine X_iload d_X_odds_145 rfl ?_
      refine X_idiv d_X_odds_147 (xGcd_0 _ _) ?_
      refine X_i2l d_X_odds_148 ?_
      exact X_lret rfl (congrArg (fun q => some (Value.long q)) (by rw [hr]; first | (simp [sOdds, rOdds, c_2]; done) | simp_all [sOdds, rOdds])) (xle_3 (fun k hk => by simp only [xup_n _ _ hk])) d_X_odds_149
    ·
      refine X_iload d_X_odds_138 rfl ?_
      refine X_goto (tgt := 145) d_X_odds_140 (by decide) ?_
      refine X_iload d_X_odds_145 rfl ?_
      refine X_idiv d_X_odds_147 (xGcd_0 _ _) ?_
      refine X_i2l d_X_odds_148 ?_
      exact X_lret rfl (congrArg (fun q => some (Value.long q)) (by rw [hr]; first | (simp [sOdds, rOdds, c_2]; done) | simp_all [sOdds, rOdds])) (xle_3 (fun k hk => by simp only [xup_n _ _ hk])) d_X_odds_149
  | succ k ih =>
    intro j m f hy_f hk hr
    unfold Q_X_odds
    refine X_iload d_X_odds_74 rfl ?_
    refine X_iload d_X_odds_76 rfl ?_
    refine X_icmp_ge (tgt := 124) d_X_odds_78 (by decide) (fun c_1 => absurd c_1 (show ¬ nI T ≤ nI j from nI_ge (by omega) (by omega))) (fun _ => ?_)
    refine X_aload_n d_X_odds_81 rfl rfl ?_
    refine X_aload_n d_X_odds_82 rfl rfl ?_
    refine X_iload_n d_X_odds_83 rfl rfl ?_
    refine X_callV (v := .ref (xg G (17 + 2 * i))) (rest := [.ref (xg G 0)]) (c_X_headAt l G nn (xup xYf 3 (some sHead)) (xup I 3 f) (by omega) (xYok_3 xYok_f _) i (by omega)) lk_X_headAt ml_X_124 (xm_obj (y0 (xYok_3 xYok_f _))) rfl rfl (Nat.le_of_ble_eq_true rfl) (xRok (d' := d - 1) (by omega) (by decide)) ⟨Nat.le_refl _, Nat.le_refl _⟩ d_X_odds_84 rfl ?_
    refine X_iload_n d_X_odds_87 rfl rfl ?_
    refine X_iload d_X_odds_88 rfl ?_
    refine X_iadd d_X_odds_90 ?_
    refine X_iload_n d_X_odds_91 rfl rfl ?_
    refine X_bipush (v := 100) d_X_odds_92 rfl ?_
    refine X_idiv d_X_odds_94 (by decide) ?_
    refine X_iload d_X_odds_95 rfl ?_
    refine X_callVv (rest := []) (k_X_thinkDrawn l G nn I (by omega) hc tc ln S hK i (by omega) (seed + (nI j)) (ss / 100) op hss f (I (17 + 2 * i)) hy_f rfl) lk_X_thinkDrawn ml_X_280 (xm_obj (y0 (xYok_3 xYok_f _))) rfl rfl (Nat.le_of_ble_eq_true rfl) (xRok (d' := d - 1) (by omega) (by decide)) ⟨Nat.le_refl _, Nat.le_refl _⟩ d_X_odds_97 rfl ?_
    refine X_aload_n d_X_odds_100 rfl rfl ?_
    refine X_getR (r := 3) fg_X_19 (y0 (xYok_3 xYok_f _)) rfl d_X_odds_101 ?_
    refine X_getI (v := (sDraw (S ln) op ((ss / 100)).toNatClampNeg ((seed + (nI j)) + 1).toInt64 (hStd (I (17 + 2 * i)))) 6) fg_X_159 (show (xup xYf 3 (some sHead)) 3 = some sHead from rfl) rfl (congrFun (xup_s _ _ _) _) d_X_odds_104 ?_
    refine X_mabsx ml_X_216 mt_abs mi_math mc_abs (xRm (by omega) (Nat.le_of_ble_eq_true rfl)) ⟨Nat.zero_le _, Nat.zero_le _⟩ d_X_odds_107 ?_
    refine X_iload d_X_odds_110 rfl ?_
    refine X_icmp_gt (tgt := 118) d_X_odds_112 (by decide) (fun c_2 => ?_) (fun c_2 => ?_)
    ·
      refine X_iinc d_X_odds_118 rfl (v := (nI j) + 1) rfl (by decide) [1, 2, 3, 4, 5, 6, 7, 8, 9, 0] (L' := [(0, .ref (xg G 0)), (1, .int seed), (2, .int ss), (3, .int (nI i)), (4, .int op), (5, .int wide), (6, .int part), (7, .int (nI T)), (8, .int m), (9, .int ((nI j) + 1))]) rfl ?_
      refine X_goto (tgt := 74) d_X_odds_121 (by decide) ?_
      simp only [nI_1]
      exact ih (j + 1) _ _ (hOK_draw _ _ _ _ (hOK_sd (hR _ (by omega)))).2 (by omega) (by rw [hr]; simp [sOdds, rOdds, c_2, Int32.not_le.mpr c_2])
    ·
      refine X_iinc d_X_odds_115 rfl (v := m + 1) rfl (by decide) [1, 2, 3, 4, 5, 6, 7, 8, 0, 9] (L' := [(0, .ref (xg G 0)), (1, .int seed), (2, .int ss), (3, .int (nI i)), (4, .int op), (5, .int wide), (6, .int part), (7, .int (nI T)), (8, .int (m + 1)), (9, .int (nI j))]) rfl ?_
      refine X_iinc d_X_odds_118 rfl (v := (nI j) + 1) rfl (by decide) [1, 2, 3, 4, 5, 6, 7, 8, 9, 0] (L' := [(0, .ref (xg G 0)), (1, .int seed), (2, .int ss), (3, .int (nI i)), (4, .int op), (5, .int wide), (6, .int part), (7, .int (nI T)), (8, .int (m + 1)), (9, .int ((nI j) + 1))]) rfl ?_
      refine X_goto (tgt := 74) d_X_odds_121 (by decide) ?_
      simp only [nI_1]
      exact ih (j + 1) _ _ (hOK_draw _ _ _ _ (hOK_sd (hR _ (by omega)))).2 (by omega) (by rw [hr]; simp [sOdds, rOdds, c_2, Int32.not_lt.mp c_2])
theorem c_X_odds (l : Launch) (G : xG) {d : Nat} (nn : Nat) (I : xI) (hd : 12 ≤ d) (hc tc ln : Nat) (S : Nat → xSay) (hK : cOK I hc tc ln S) (seed ss h op wide part : Int32) : XM l G d y_X_odds b_X_odds 10 (some .long) 0 0 xK0 [.ref (xg G 0), .int seed, .int ss, .int h, .int op, .int wide, .int part] nn (xm G xYf I) (some (.long (aOdds hc (S ln) (fun i => I (17 + 2 * i)) seed ss h op wide part))) nn (xm G xYf (I)) := by
  obtain ⟨⟨h10, h5⟩, ⟨h11, h6⟩, ⟨h12, hl⟩, hTs, hR⟩ := id hK
  refine XM.of (by decide) (Nat.le_of_ble_eq_true rfl) (L := [(0, .ref (xg G 0)), (1, .int seed), (2, .int ss), (3, .int h), (4, .int op), (5, .int wide), (6, .int part)]) rfl ?_
  refine X_aload_n d_X_odds_0 rfl rfl ?_
  refine X_iload_n d_X_odds_1 rfl rfl ?_
  refine X_callV (v := .int (xb (xin h 0 (nI hc - 1)))) (rest := []) (c_X_isHead l G nn xYf I (by omega) xYok_f h (nI hc) (h10)) lk_X_isHead ml_X_113 (xm_obj (y0 xYok_f)) rfl rfl (Nat.le_of_ble_eq_true rfl) (xRok (d' := d - 1) (by omega) (by decide)) ⟨Nat.le_refl _, Nat.le_refl _⟩ d_X_odds_2 rfl ?_
  refine X_ifb_eq (tgt := 25) d_X_odds_5 (by decide) (fun c_1 => ?_) (fun c_1 => ?_)
  ·
    refine X_ldc2 cs_X_287 d_X_odds_25 ?_
    exact X_lret rfl (congrArg (fun q => some (Value.long q)) (by first | (simp [aOdds, c_1, xl_1_0, xl_1_1, xl_2_0, xl_2_1, xl_2_2, xl_3_0, xl_3_1, xl_3_2, xl_3_3]; done) | (exfalso; simp_all; done) | (clear hTs hR hK; simp_all [aOdds]; done))) (xle_rf _) d_X_odds_28
  ·
    obtain ⟨i, hi, rfl⟩ := cHead h5 c_1
    refine X_iload_n d_X_odds_8 rfl rfl ?_
    refine X_iconst (v := 0) d_X_odds_9 rfl ?_
    refine X_ldc cs_X_245 d_X_odds_10 ?_
    refine X_callS (v := .int (xb (xin seed 0 99999))) (rest := []) (c_X_within l G nn _ (by omega) seed 0 99999) lk_X_within ml_X_105 rfl (Nat.le_of_ble_eq_true rfl) (xRok (d' := d - 1) (by omega) (by decide)) ⟨Nat.le_refl _, Nat.le_refl _⟩ d_X_odds_12 rfl ?_
    refine X_ifb_eq (tgt := 25) d_X_odds_15 (by decide) (fun c_2 => ?_) (fun c_2 => ?_)
    ·
      refine X_ldc2 cs_X_287 d_X_odds_25 ?_
      exact X_lret rfl (congrArg (fun q => some (Value.long q)) (by first | (simp [aOdds, c_1, nI_cl (show i < 2 ^ 31 by omega), c_2, xl_1_0, xl_1_1, xl_2_0, xl_2_1, xl_2_2, xl_3_0, xl_3_1, xl_3_2, xl_3_3]; done) | (exfalso; simp_all; done) | (clear hTs hR hK; simp_all [aOdds, nI_cl (show i < 2 ^ 31 by omega)]; done))) (xle_rf _) d_X_odds_28
    ·
      refine X_iload_n d_X_odds_18 rfl rfl ?_
      refine X_callS (v := .int (xb (xss ss))) (rest := []) (c_X_isSecondsSeeds l G nn _ (by omega) ss) lk_X_isSecondsSeeds ml_X_284 rfl (Nat.le_of_ble_eq_true rfl) (xRok (d' := d - 1) (by omega) (by decide)) ⟨Nat.le_refl _, Nat.le_refl _⟩ d_X_odds_19 rfl ?_
      refine X_ifb_ne (tgt := 29) d_X_odds_22 (by decide) (fun c_3 => ?_) (fun c_3 => ?_)
      ·
        refine X_iload d_X_odds_29 rfl ?_
        refine X_callS (v := .int (xb (xop op))) (rest := []) (c_X_isOddsPace l G nn _ (by omega) op) lk_X_isOddsPace ml_X_277 rfl (Nat.le_of_ble_eq_true rfl) (xRok (d' := d - 1) (by omega) (by decide)) ⟨Nat.le_refl _, Nat.le_refl _⟩ d_X_odds_31 rfl ?_
        refine X_ifb_eq (tgt := 58) d_X_odds_34 (by decide) (fun c_4 => ?_) (fun c_4 => ?_)
        ·
          refine X_ldc2 cs_X_287 d_X_odds_58 ?_
          exact X_lret rfl (congrArg (fun q => some (Value.long q)) (by first | (simp [aOdds, c_1, nI_cl (show i < 2 ^ 31 by omega), c_2, c_3, c_4, xl_1_0, xl_1_1, xl_2_0, xl_2_1, xl_2_2, xl_3_0, xl_3_1, xl_3_2, xl_3_3]; done) | (exfalso; simp_all; done) | (clear hTs hR hK; simp_all [aOdds, nI_cl (show i < 2 ^ 31 by omega)]; done))) (xle_rf _) d_X_odds_61
        ·
          refine X_iload d_X_odds_37 rfl ?_
          refine X_iconst (v := 0) d_X_odds_39 rfl ?_
          refine X_ldc cs_X_245 d_X_odds_40 ?_
          refine X_callS (v := .int (xb (xin wide 0 99999))) (rest := []) (c_X_within l G nn _ (by omega) wide 0 99999) lk_X_within ml_X_105 rfl (Nat.le_of_ble_eq_true rfl) (xRok (d' := d - 1) (by omega) (by decide)) ⟨Nat.le_refl _, Nat.le_refl _⟩ d_X_odds_42 rfl ?_
          refine X_ifb_eq (tgt := 58) d_X_odds_45 (by decide) (fun c_5 => ?_) (fun c_5 => ?_)
          ·
            refine X_ldc2 cs_X_287 d_X_odds_58 ?_
            exact X_lret rfl (congrArg (fun q => some (Value.long q)) (by first | (simp [aOdds, c_1, nI_cl (show i < 2 ^ 31 by omega), c_2, c_3, c_4, c_5, xl_1_0, xl_1_1, xl_2_0, xl_2_1, xl_2_2, xl_3_0, xl_3_1, xl_3_2, xl_3_3]; done) | (exfalso; simp_all; done) | (clear hTs hR hK; simp_all [aOdds, nI_cl (show i < 2 ^ 31 by omega)]; done))) (xle_rf _) d_X_odds_61
          ·
            refine X_iload d_X_odds_48 rfl ?_
            refine X_iconst (v := 0) d_X_odds_50 rfl ?_
            refine X_iconst (v := 1) d_X_odds_51 rfl ?_
            refine X_callS (v := .int (xb (xin part 0 1))) (rest := []) (c_X_within l G nn _ (by omega) part 0 1) lk_X_within ml_X_105 rfl (Nat.le_of_ble_eq_true rfl) (xRok (d' := d - 1) (by omega) (by decide)) ⟨Nat.le_refl _, Nat.le_refl _⟩ d_X_odds_52 rfl ?_
            refine X_ifb_ne (tgt := 62) d_X_odds_55 (by decide) (fun c_6 => ?_) (fun c_6 => ?_)
            ·
              refine X_knowH (a := 3) rfl (fun f3 hf3 => ?_)
              obtain ⟨T, hT40, hTe⟩ := xss_s c_3
              refine X_iload_n d_X_odds_62 rfl rfl ?_
              refine X_bipush (v := 100) d_X_odds_63 rfl ?_
              refine X_irem d_X_odds_65 (by decide) ?_
              rw [hTe]
              refine X_istore d_X_odds_66 (by decide) [1, 2, 3, 4, 5, 6, 7, 0] (L' := [(0, .ref (xg G 0)), (1, .int seed), (2, .int ss), (3, .int (nI i)), (4, .int op), (5, .int wide), (6, .int part), (7, .int (nI T))]) rfl ?_
              refine X_iconst (v := 0) d_X_odds_68 rfl ?_
              refine X_istore d_X_odds_69 (by decide) [1, 2, 3, 4, 5, 6, 7, 8, 0] (L' := [(0, .ref (xg G 0)), (1, .int seed), (2, .int ss), (3, .int (nI i)), (4, .int op), (5, .int wide), (6, .int part), (7, .int (nI T)), (8, .int 0)]) rfl ?_
              refine X_iconst (v := 0) d_X_odds_71 rfl ?_
              refine X_istore d_X_odds_72 (by decide) [1, 2, 3, 4, 5, 6, 7, 8, 9, 0] (L' := [(0, .ref (xg G 0)), (1, .int seed), (2, .int ss), (3, .int (nI i)), (4, .int op), (5, .int wide), (6, .int part), (7, .int (nI T)), (8, .int 0), (9, .int 0)]) rfl ?_
              exact w_X_odds l G nn I (by omega) hc tc ln S hK i seed ss op wide part T (by omega) (xss_w c_3) hT40 _ T 0 _ _ hf3 (by omega) (by first | (simp [aOdds, c_1, nI_cl (show i < 2 ^ 31 by omega), c_2, c_3, c_4, c_5, c_6, hTe, nI_cl (show T < 2 ^ 31 by omega), xl_1_0, xl_1_1, xl_2_0, xl_2_1, xl_2_2]; done) | (clear hTs hR hK; simp_all [aOdds, nI_cl (show i < 2 ^ 31 by omega), nI_cl (show T < 2 ^ 31 by omega)]; done))
            ·
              refine X_ldc2 cs_X_287 d_X_odds_58 ?_
              exact X_lret rfl (congrArg (fun q => some (Value.long q)) (by first | (simp [aOdds, c_1, nI_cl (show i < 2 ^ 31 by omega), c_2, c_3, c_4, c_5, c_6, xl_1_0, xl_1_1, xl_2_0, xl_2_1, xl_2_2, xl_3_0, xl_3_1, xl_3_2, xl_3_3]; done) | (exfalso; simp_all; done) | (clear hTs hR hK; simp_all [aOdds, nI_cl (show i < 2 ^ 31 by omega)]; done))) (xle_rf _) d_X_odds_61
      ·
        refine X_ldc2 cs_X_287 d_X_odds_25 ?_
        exact X_lret rfl (congrArg (fun q => some (Value.long q)) (by first | (simp [aOdds, c_1, nI_cl (show i < 2 ^ 31 by omega), c_2, c_3, xl_1_0, xl_1_1, xl_2_0, xl_2_1, xl_2_2, xl_3_0, xl_3_1, xl_3_2, xl_3_3]; done) | (exfalso; simp_all; done) | (clear hTs hR hK; simp_all [aOdds, nI_cl (show i < 2 ^ 31 by omega)]; done))) (xle_rf _) d_X_odds_28
