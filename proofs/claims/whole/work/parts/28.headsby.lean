def hbS (hc : Nat) (k m : Int32) : Nat := if xin k 0 5 = true ∧ xin m 0 9 = true then (if 5 ≤ hc then hc else hc + 1) else hc
theorem hOK_begin (k m : Int32) {f : Nat → Int32} (h : hOK f) : hOK (hBegin k m f) := hOK_std (hZ_up (hZ_up (hZ_up (hZ_up (hZ_up h.2 (by decide) _) (by decide) _) (by decide) _) (by decide) _) (by decide) _)
theorem cOK_head {I : xI} {hc tc ln : Nat} {S : Nat → xSay} (h : cOK I hc tc ln S) (k m : Int32) : cOK (mHead I hc k m) (hbS hc k m) tc ln S := by
  unfold mHead hbS
  split
  · split
    · exact h
    · rename_i hlt
      obtain ⟨⟨h10, h5⟩, ⟨h11, h6⟩, ⟨h12, hl⟩, hTs, hR⟩ := h
      have hne : ∀ a k v, a ≠ 17 + 2 * hc → a ≠ 0 → xw (xup I (17 + 2 * hc) (hBegin k m (I (17 + 2 * hc)))) 0 10 v a = I a := fun a k v h1 h2 => by rw [xw_row _ _ _ h2, xup_n _ _ h1]
      refine ⟨⟨by rw [xw_s, nI_1], by omega⟩, ⟨by rw [xw_k _ _ _ (by decide), xup_n _ _ (by omega)]; exact h11, h6⟩, ⟨by rw [xw_k _ _ _ (by decide), xup_n _ _ (by omega)]; exact h12, hl⟩, fun j hj => ?_, fun i hi => ?_⟩
      · exact xTx_kept (hTs j hj) (by rw [xw_row _ _ _ (by omega), xup_n _ _ (by omega)]) (by rw [xw_row _ _ _ (by omega), xup_n _ _ (by omega)]) (by rw [xw_row _ _ _ (by omega), xup_n _ _ (by omega)])
      · rw [xw_row _ _ _ (by omega)]
        by_cases hi2 : i = hc
        · subst hi2; rw [xup_s]; exact hOK_begin _ _ (hR _ hi)
        · rw [xup_n _ _ (by omega)]; exact hR _ hi
  · exact h
def hbA (s : Nat) (p : Int32) : Nat → Nat → xI → Nat → Int32 → Int32
  | 0, _, _, _, c => c
  | r + 1, k, J, h, c => if shRow (J s) p (2 * nI k + 2) = true then hbA s p r (k + 1) (mHead J h (shGet J s (p + 2 * nI k)) (shGet J s (p + 2 * nI k + 1))) (hbS h (shGet J s (p + 2 * nI k)) (shGet J s (p + 2 * nI k + 1))) (if aHead h (shGet J s (p + 2 * nI k)) (shGet J s (p + 2 * nI k + 1)) < 0 then c else c + 1) else -12
def hbM (s : Nat) (p : Int32) : Nat → Nat → xI → Nat → xI
  | 0, _, J, _ => J
  | r + 1, k, J, h => if shRow (J s) p (2 * nI k + 2) = true then hbM s p r (k + 1) (mHead J h (shGet J s (p + 2 * nI k)) (shGet J s (p + 2 * nI k + 1))) (hbS h (shGet J s (p + 2 * nI k)) (shGet J s (p + 2 * nI k + 1))) else J
def Q_X_headsBy (l : Launch) (G : xG) (d nn : Nat) (q T : Nat) (sort p : Int32) (k : Nat) (J : xI) (h : Nat) (c : Int32) : Prop := XW l G (xR d 0 0) y_X_headsBy b_X_headsBy 8 (some .int) xK0 (xZ G nn (xm G xYf (hbM (51 + 2 * q) p (T - k) k J h)) (some (.int (hbA (51 + 2 * q) p (T - k) k J h c))) 0 0) nn (xm G xYf J) 0 0 65 [(0, .ref (xg G 0)), (1, .int (nI q)), (2, .int sort), (3, .int p), (4, .int (nI T)), (5, .ref (xg G (51 + 2 * q))), (6, .int c), (7, .int (nI k))] []
theorem w_X_headsBy (l : Launch) (G : xG) {d : Nat} (nn : Nat) (hd : 6 ≤ d) (tc ln : Nat) (S : Nat → xSay) (q T : Nat) (hq : q < 4) (hT : T ≤ 5) (sort p : Int32) (k : Nat) (hk : k ≤ T) (ih : k < T → ∀ J h c, cOK J h tc ln S → Q_X_headsBy l G d nn q T sort p (k + 1) J h c) (J : xI) (h : Nat) (c : Int32) (hK : cOK J h tc ln S) : Q_X_headsBy l G d nn q T sort p k J h c := by
  unfold Q_X_headsBy
  refine X_iload d_X_headsBy_65 rfl ?_
  refine X_iload d_X_headsBy_67 rfl ?_
  refine X_icmp_ge (tgt := 130) d_X_headsBy_69 (by decide) (fun c_1 => ?_) (fun c_1 => ?_)
  ·
    refine X_iload d_X_headsBy_130 rfl ?_
    have hdone := nI_done hk (by omega) c_1
    have hz : T - k = 0 := by omega
    rw [hz]
    exact X_iret rfl rfl (xle_rf _) d_X_headsBy_132
  ·
    refine X_aload d_X_headsBy_72 rfl ?_
    refine X_iload_n d_X_headsBy_74 rfl rfl ?_
    refine X_iconst (v := 2) d_X_headsBy_75 rfl ?_
    refine X_iload d_X_headsBy_76 rfl ?_
    refine X_imul d_X_headsBy_78 ?_
    refine X_iconst (v := 2) d_X_headsBy_79 rfl ?_
    refine X_iadd d_X_headsBy_80 ?_
    refine X_callV (v := .int (xb (shRow (J (51 + 2 * q)) p ((2 * (nI k)) + 2)))) (rest := []) (c_Sheet_hasRow l G nn xYf J (by omega) (51 + 2 * q) (yS xYok_f (show q < 4 by omega)).1 (yS xYok_f (show q < 4 by omega)).2 p ((2 * (nI k)) + 2)) lk_Sheet_hasRow ml_X_304 (xm_obj (yS xYok_f (show q < 4 by omega)).1) rfl rfl (Nat.le_of_ble_eq_true rfl) (xRok (d' := d - 1) (by omega) (by decide)) ⟨Nat.le_refl _, Nat.le_refl _⟩ d_X_headsBy_81 rfl ?_
    refine X_ifb_ne (tgt := 90) d_X_headsBy_84 (by decide) (fun c_2 => ?_) (fun c_2 => ?_)
    ·
      refine X_aload_n d_X_headsBy_90 rfl rfl ?_
      refine X_aload d_X_headsBy_91 rfl ?_
      refine X_iload_n d_X_headsBy_93 rfl rfl ?_
      refine X_iconst (v := 2) d_X_headsBy_94 rfl ?_
      refine X_iload d_X_headsBy_95 rfl ?_
      refine X_imul d_X_headsBy_97 ?_
      refine X_iadd d_X_headsBy_98 ?_
      refine X_callV (v := .int (shGet J (51 + 2 * q) (p + (2 * (nI k))))) (rest := [.ref (xg G 0)]) (c_Sheet_get l G nn xYf J (by omega) (51 + 2 * q) (yS xYok_f (show q < 4 by omega)).1 (yS xYok_f (show q < 4 by omega)).2 (p + (2 * (nI k)))) lk_Sheet_get ml_X_316 (xm_obj (yS xYok_f (show q < 4 by omega)).1) rfl rfl (Nat.le_of_ble_eq_true rfl) (xRok (d' := d - 1) (by omega) (by decide)) ⟨Nat.le_refl _, Nat.le_refl _⟩ d_X_headsBy_99 rfl ?_
      refine X_aload d_X_headsBy_102 rfl ?_
      refine X_iload_n d_X_headsBy_104 rfl rfl ?_
      refine X_iconst (v := 2) d_X_headsBy_105 rfl ?_
      refine X_iload d_X_headsBy_106 rfl ?_
      refine X_imul d_X_headsBy_108 ?_
      refine X_iadd d_X_headsBy_109 ?_
      refine X_iconst (v := 1) d_X_headsBy_110 rfl ?_
      refine X_iadd d_X_headsBy_111 ?_
      refine X_callV (v := .int (shGet J (51 + 2 * q) ((p + (2 * (nI k))) + 1))) (rest := [.int (shGet J (51 + 2 * q) (p + (2 * (nI k)))), .ref (xg G 0)]) (c_Sheet_get l G nn xYf J (by omega) (51 + 2 * q) (yS xYok_f (show q < 4 by omega)).1 (yS xYok_f (show q < 4 by omega)).2 ((p + (2 * (nI k))) + 1)) lk_Sheet_get ml_X_316 (xm_obj (yS xYok_f (show q < 4 by omega)).1) rfl rfl (Nat.le_of_ble_eq_true rfl) (xRok (d' := d - 1) (by omega) (by decide)) ⟨Nat.le_refl _, Nat.le_refl _⟩ d_X_headsBy_112 rfl ?_
      refine X_callV (v := .int (aHead h (shGet J (51 + 2 * q) (p + (2 * (nI k)))) (shGet J (51 + 2 * q) ((p + (2 * (nI k))) + 1)))) (rest := []) (c_X_head l G nn J (by omega) h tc ln S hK (shGet J (51 + 2 * q) (p + (2 * (nI k)))) (shGet J (51 + 2 * q) ((p + (2 * (nI k))) + 1))) lk_X_head ml_X_319 (xm_obj (y0 xYok_f)) rfl rfl (Nat.le_of_ble_eq_true rfl) (xRok (d' := d - 1) (by omega) (by decide)) ⟨Nat.le_refl _, Nat.le_refl _⟩ d_X_headsBy_115 rfl ?_
      refine X_if_lt (tgt := 124) d_X_headsBy_118 (by decide) (fun c_3 => ?_) (fun c_3 => ?_)
      ·
        refine X_iinc d_X_headsBy_124 rfl (v := (nI k) + 1) rfl (by decide) [1, 2, 3, 4, 5, 6, 7, 0] (L' := [(0, .ref (xg G 0)), (1, .int (nI q)), (2, .int sort), (3, .int p), (4, .int (nI T)), (5, .ref (xg G (51 + 2 * q))), (6, .int c), (7, .int ((nI k) + 1))]) rfl ?_
        refine X_goto (tgt := 65) d_X_headsBy_127 (by decide) ?_
        have hlt := nI_more hk (by omega) c_1
        have hz : T - k = (T - (k + 1)) + 1 := by omega
        have key := ih hlt (mHead J h (shGet J (51 + 2 * q) (p + 2 * nI k)) (shGet J (51 + 2 * q) (p + 2 * nI k + 1))) (hbS h (shGet J (51 + 2 * q) (p + 2 * nI k)) (shGet J (51 + 2 * q) (p + 2 * nI k + 1))) (c) (cOK_head hK _ _)
        unfold Q_X_headsBy at key
        rw [hz, hbA, hbM, if_pos c_2, if_pos c_2, if_pos c_3, nI_1]
        exact key
      ·
        refine X_iinc d_X_headsBy_121 rfl (v := c + 1) rfl (by decide) [1, 2, 3, 4, 5, 6, 0, 7] (L' := [(0, .ref (xg G 0)), (1, .int (nI q)), (2, .int sort), (3, .int p), (4, .int (nI T)), (5, .ref (xg G (51 + 2 * q))), (6, .int (c + 1)), (7, .int (nI k))]) rfl ?_
        refine X_iinc d_X_headsBy_124 rfl (v := (nI k) + 1) rfl (by decide) [1, 2, 3, 4, 5, 6, 7, 0] (L' := [(0, .ref (xg G 0)), (1, .int (nI q)), (2, .int sort), (3, .int p), (4, .int (nI T)), (5, .ref (xg G (51 + 2 * q))), (6, .int (c + 1)), (7, .int ((nI k) + 1))]) rfl ?_
        refine X_goto (tgt := 65) d_X_headsBy_127 (by decide) ?_
        have hlt := nI_more hk (by omega) c_1
        have hz : T - k = (T - (k + 1)) + 1 := by omega
        have key := ih hlt (mHead J h (shGet J (51 + 2 * q) (p + 2 * nI k)) (shGet J (51 + 2 * q) (p + 2 * nI k + 1))) (hbS h (shGet J (51 + 2 * q) (p + 2 * nI k)) (shGet J (51 + 2 * q) (p + 2 * nI k + 1))) (c + 1) (cOK_head hK _ _)
        unfold Q_X_headsBy at key
        rw [hz, hbA, hbM, if_pos c_2, if_pos c_2, if_neg c_3, nI_1]
        exact key
    ·
      refine X_bipush (v := -12) d_X_headsBy_87 rfl ?_
      have hlt := nI_more hk (by omega) c_1
      have hz : T - k = (T - (k + 1)) + 1 := by omega
      rw [hz, hbA, hbM, if_neg (by simp [c_2]), if_neg (by simp [c_2])]
      exact X_iret rfl rfl (xle_rf _) d_X_headsBy_89
def aHeadsBy (hc : Nat) (I : xI) (s sort p n : Int32) : Int32 := if xin s 0 3 = true ∧ xin sort 0 2 = true ∧ xin n 0 5 = true then (if I (51 + 2 * s.toNatClampNeg) 1 = -1 then -11 else if I (51 + 2 * s.toNatClampNeg) 1 = sort then hbA (51 + 2 * s.toNatClampNeg) p n.toNatClampNeg 0 I hc 0 else -13) else -2
def mHeadsBy (hc : Nat) (I : xI) (s sort p n : Int32) : xI := if xin s 0 3 = true ∧ xin sort 0 2 = true ∧ xin n 0 5 = true then (if I (51 + 2 * s.toNatClampNeg) 1 = -1 then I else if I (51 + 2 * s.toNatClampNeg) 1 = sort then hbM (51 + 2 * s.toNatClampNeg) p n.toNatClampNeg 0 I hc else I) else I
theorem c_X_headsBy (l : Launch) (G : xG) {d : Nat} (nn : Nat) (I : xI) (hd : 6 ≤ d) (hc tc ln : Nat) (S : Nat → xSay) (hK : cOK I hc tc ln S) (s sort p n : Int32) : XM l G d y_X_headsBy b_X_headsBy 8 (some .int) 0 0 xK0 [.ref (xg G 0), .int s, .int sort, .int p, .int n] nn (xm G xYf I) (some (.int (aHeadsBy hc I s sort p n))) nn (xm G xYf (mHeadsBy hc I s sort p n)) := by
  obtain ⟨⟨h10, h5⟩, ⟨h11, h6⟩, ⟨h12, hl⟩, hTs, hR⟩ := id hK
  refine XM.of (by decide) (Nat.le_of_ble_eq_true rfl) (L := [(0, .ref (xg G 0)), (1, .int s), (2, .int sort), (3, .int p), (4, .int n)]) rfl ?_
  refine X_iload_n d_X_headsBy_0 rfl rfl ?_
  refine X_callS (v := .int (xb (xin s 0 3))) (rest := []) (c_X_isSheet l G nn _ (by omega) s) lk_X_isSheet ml_X_267 rfl (Nat.le_of_ble_eq_true rfl) (xRok (d' := d - 1) (by omega) (by decide)) ⟨Nat.le_refl _, Nat.le_refl _⟩ d_X_headsBy_1 rfl ?_
  refine X_ifb_eq (tgt := 26) d_X_headsBy_4 (by decide) (fun c_1 => ?_) (fun c_1 => ?_)
  ·
    refine X_bipush (v := -2) d_X_headsBy_26 rfl ?_
    exact X_iret rfl (congrArg (fun q => some (Value.int q)) (by first | (simp [aHeadsBy, c_1, xl_1_0, xl_1_1, xl_2_0, xl_2_1, xl_2_2, xl_3_0, xl_3_1, xl_3_2, xl_3_3]; done) | (exfalso; simp_all; done) | (clear hTs hR hK; simp_all [aHeadsBy]; done))) (xle_of (congrArg (xm G xYf) (by first | (simp [mHeadsBy, c_1]; done) | (exfalso; simp_all; done)))) d_X_headsBy_28
  ·
    obtain ⟨q, hq, rfl⟩ := cTop (n := 3) (by decide) c_1
    refine X_iload_n d_X_headsBy_7 rfl rfl ?_
    refine X_iconst (v := 0) d_X_headsBy_8 rfl ?_
    refine X_iconst (v := 2) d_X_headsBy_9 rfl ?_
    refine X_callS (v := .int (xb (xin sort 0 2))) (rest := []) (c_X_within l G nn _ (by omega) sort 0 2) lk_X_within ml_X_105 rfl (Nat.le_of_ble_eq_true rfl) (xRok (d' := d - 1) (by omega) (by decide)) ⟨Nat.le_refl _, Nat.le_refl _⟩ d_X_headsBy_10 rfl ?_
    refine X_ifb_eq (tgt := 26) d_X_headsBy_13 (by decide) (fun c_2 => ?_) (fun c_2 => ?_)
    ·
      refine X_bipush (v := -2) d_X_headsBy_26 rfl ?_
      exact X_iret rfl (congrArg (fun q => some (Value.int q)) (by first | (simp [aHeadsBy, c_1, nI_cl (show q < 2 ^ 31 by omega), c_2, xl_1_0, xl_1_1, xl_2_0, xl_2_1, xl_2_2, xl_3_0, xl_3_1, xl_3_2, xl_3_3]; done) | (exfalso; simp_all; done) | (clear hTs hR hK; simp_all [aHeadsBy, nI_cl (show q < 2 ^ 31 by omega)]; done))) (xle_of (congrArg (xm G xYf) (by first | (simp [mHeadsBy, c_1, nI_cl (show q < 2 ^ 31 by omega), c_2]; done) | (exfalso; simp_all; done)))) d_X_headsBy_28
    ·
      refine X_iload d_X_headsBy_16 rfl ?_
      refine X_iconst (v := 0) d_X_headsBy_18 rfl ?_
      refine X_iconst (v := 5) d_X_headsBy_19 rfl ?_
      refine X_callS (v := .int (xb (xin n 0 5))) (rest := []) (c_X_within l G nn _ (by omega) n 0 5) lk_X_within ml_X_105 rfl (Nat.le_of_ble_eq_true rfl) (xRok (d' := d - 1) (by omega) (by decide)) ⟨Nat.le_refl _, Nat.le_refl _⟩ d_X_headsBy_20 rfl ?_
      refine X_ifb_ne (tgt := 29) d_X_headsBy_23 (by decide) (fun c_3 => ?_) (fun c_3 => ?_)
      ·
        refine X_aload_n d_X_headsBy_29 rfl rfl ?_
        refine X_iload_n d_X_headsBy_30 rfl rfl ?_
        refine X_callV (v := .ref (xg G (51 + 2 * q))) (rest := []) (c_X_sheetAt l G nn xYf I (by omega) xYok_f q (by omega)) lk_X_sheetAt ml_X_256 (xm_obj (y0 xYok_f)) rfl rfl (Nat.le_of_ble_eq_true rfl) (xRok (d' := d - 1) (by omega) (by decide)) ⟨Nat.le_refl _, Nat.le_refl _⟩ d_X_headsBy_31 rfl ?_
        refine X_astore d_X_headsBy_34 (by decide) [1, 2, 3, 4, 5, 0] (L' := [(0, .ref (xg G 0)), (1, .int (nI q)), (2, .int sort), (3, .int p), (4, .int n), (5, .ref (xg G (51 + 2 * q)))]) rfl ?_
        refine X_aload d_X_headsBy_36 rfl ?_
        refine X_callV (v := .int (xb (decide (I (51 + 2 * q) 1 = -1)))) (rest := []) (k_Sheet_isMissing l G nn xYf I (by omega) (51 + 2 * q) (yS xYok_f (show q < 4 by omega)).1 (yS xYok_f (show q < 4 by omega)).2 (I (51 + 2 * q) 1) (rfl)) lk_Sheet_isMissing ml_X_298 (xm_obj (yS xYok_f (show q < 4 by omega)).1) rfl rfl (Nat.le_of_ble_eq_true rfl) (xRok (d' := d - 1) (by omega) (by decide)) ⟨Nat.le_refl _, Nat.le_refl _⟩ d_X_headsBy_38 rfl ?_
        refine X_ifb_eq (tgt := 47) d_X_headsBy_41 (by decide) (fun c_4 => ?_) (fun c_4 => ?_)
        ·
          refine X_aload d_X_headsBy_47 rfl ?_
          refine X_getI (v := I (51 + 2 * q) 1) fg_X_301 (yS xYok_f (show q < 4 by omega)).1 rfl (rfl) d_X_headsBy_49 ?_
          refine X_iload_n d_X_headsBy_52 rfl rfl ?_
          refine X_icmp_eq (tgt := 59) d_X_headsBy_53 (by decide) (fun c_5 => ?_) (fun c_5 => ?_)
          ·
            have c_59 : ¬ sort = -1 := fun z => of_decide_eq_false c_4 (c_5.trans z)
            refine X_iconst (v := 0) d_X_headsBy_59 rfl ?_
            refine X_istore d_X_headsBy_60 (by decide) [1, 2, 3, 4, 5, 6, 0] (L' := [(0, .ref (xg G 0)), (1, .int (nI q)), (2, .int sort), (3, .int p), (4, .int n), (5, .ref (xg G (51 + 2 * q))), (6, .int 0)]) rfl ?_
            refine X_iconst (v := 0) d_X_headsBy_62 rfl ?_
            refine X_istore d_X_headsBy_63 (by decide) [1, 2, 3, 4, 5, 6, 7, 0] (L' := [(0, .ref (xg G 0)), (1, .int (nI q)), (2, .int sort), (3, .int p), (4, .int n), (5, .ref (xg G (51 + 2 * q))), (6, .int 0), (7, .int 0)]) rfl ?_
            obtain ⟨T, hT5, rfl⟩ := cTop (n := 5) (by decide) c_3
            have hx := xloop (Q := fun k => ∀ J h c, cOK J h tc ln S → Q_X_headsBy l G d nn q T sort p k J h c) (T := T) (fun k hk ih => w_X_headsBy l G nn (by omega) tc ln S q T (by omega) hT5 sort p k hk ih) 0 (Nat.zero_le _) I hc 0 hK
            unfold Q_X_headsBy at hx
            have e1 : aHeadsBy hc I (nI q) sort p (nI T) = hbA (51 + 2 * q) p (T - 0) 0 I hc 0 := by simp [aHeadsBy, c_1, nI_cl (show q < 2 ^ 31 by omega), c_2, c_3, c_4, c_5, c_59, nI_cl (show T < 2 ^ 31 by omega)]
            have e2 : mHeadsBy hc I (nI q) sort p (nI T) = hbM (51 + 2 * q) p (T - 0) 0 I hc := by simp [mHeadsBy, c_1, nI_cl (show q < 2 ^ 31 by omega), c_2, c_3, c_4, c_5, c_59, nI_cl (show T < 2 ^ 31 by omega)]
            rw [e1, e2]
            exact hx
          ·
            refine X_bipush (v := -13) d_X_headsBy_56 rfl ?_
            exact X_iret rfl (congrArg (fun q => some (Value.int q)) (by first | (simp [aHeadsBy, c_1, nI_cl (show q < 2 ^ 31 by omega), c_2, c_3, c_4, c_5, xl_1_0, xl_1_1, xl_2_0, xl_2_1, xl_2_2, xl_3_0, xl_3_1, xl_3_2, xl_3_3]; done) | (exfalso; simp_all; done) | (clear hTs hR hK; simp_all [aHeadsBy, nI_cl (show q < 2 ^ 31 by omega)]; done))) (xle_of (congrArg (xm G xYf) (by first | (simp [mHeadsBy, c_1, nI_cl (show q < 2 ^ 31 by omega), c_2, c_3, c_4, c_5]; done) | (exfalso; simp_all; done)))) d_X_headsBy_58
        ·
          have c_44 : I (51 + 2 * q) 1 = -1 := of_decide_eq_true c_4
          refine X_bipush (v := -11) d_X_headsBy_44 rfl ?_
          exact X_iret rfl (congrArg (fun q => some (Value.int q)) (by first | (simp [aHeadsBy, c_1, nI_cl (show q < 2 ^ 31 by omega), c_2, c_3, c_44, xl_1_0, xl_1_1, xl_2_0, xl_2_1, xl_2_2, xl_3_0, xl_3_1, xl_3_2, xl_3_3]; done) | (exfalso; simp_all; done) | (clear hTs hR hK; simp_all [aHeadsBy, nI_cl (show q < 2 ^ 31 by omega)]; done))) (xle_of (congrArg (xm G xYf) (by first | (simp [mHeadsBy, c_1, nI_cl (show q < 2 ^ 31 by omega), c_2, c_3, c_44]; done) | (exfalso; simp_all; done)))) d_X_headsBy_46
      ·
        refine X_bipush (v := -2) d_X_headsBy_26 rfl ?_
        exact X_iret rfl (congrArg (fun q => some (Value.int q)) (by first | (simp [aHeadsBy, c_1, nI_cl (show q < 2 ^ 31 by omega), c_2, c_3, xl_1_0, xl_1_1, xl_2_0, xl_2_1, xl_2_2, xl_3_0, xl_3_1, xl_3_2, xl_3_3]; done) | (exfalso; simp_all; done) | (clear hTs hR hK; simp_all [aHeadsBy, nI_cl (show q < 2 ^ 31 by omega)]; done))) (xle_of (congrArg (xm G xYf) (by first | (simp [mHeadsBy, c_1, nI_cl (show q < 2 ^ 31 by omega), c_2, c_3]; done) | (exfalso; simp_all; done)))) d_X_headsBy_28
