def kVar (sort v : Int32) (f : Nat → Int32) : Nat → Int32 := if sort = 0 then xup f 0 v else if sort = 1 then xup f 1 v else xup f 3 v
def tUnk (L : xSay) (cl : Nat → Int32) (sz : Nat) (n sp : Int32) (g : Nat → Int32) : Int32 := (sFO L (sp - sp / 10 * 10) cl sz 0 (hSpin L n (sp / 10) g)).1
def aKinds (hc : Nat) (L : xSay) (R : Nat → Nat → Int32) (srt : Nat → Int32) (sz : Nat → Nat) (cl : Nat → Nat → Int32) (s h n sp sort : Int32) : Int32 := if rTold hc srt s h = 0 then (if xin n (-40) 40 = true ∧ xsp sp = true ∧ xin sort 0 2 = true then sBits (fun i => tUnk L (cl s.toNatClampNeg) (sz s.toNatClampNeg) n sp (kVar sort (nI i) (hStd (R h.toNatClampNeg)))) (if sort = 0 then 6 else 10) 0 0 else -7) else rTold hc srt s h
def Q_X_kinds_0 (l : Launch) (G : xG) (d nn : Nat) (I : xI) (ln : Nat) (S : Nat → xSay) (q : Nat) (i : Nat) (n : Int32) (sp : Int32) (r : Int32) (t : Nat) (b : Int32) (f : Nat → Int32) : Prop := XW l G (xR d 0 0) y_X_kinds b_X_kinds 10 (some .int) xK0 (xZ G nn (xm G xYf (I)) (some (.int r)) 0 0) nn (xm G (xup xYf 3 (some sHead)) (xup I 3 f)) 0 0 75 [(0, .ref (xg G 0)), (1, .int (nI q)), (2, .int (nI i)), (3, .int n), (4, .int sp), (5, .int 0), (7, .int 6), (8, .int b), (9, .int (nI t))] []
theorem w_X_kinds_0 (l : Launch) (G : xG) {d : Nat} (nn : Nat) (I : xI) (hd : 10 ≤ d) (hc tc ln : Nat) (S : Nat → xSay) (hK : cOK I hc tc ln S) (sz : Nat → Nat) (hsz : sOK I sz) (q : Nat) (i : Nat) (n : Int32) (sp : Int32) (hq : q < 4) (hi : i < hc) (hn : ¬ xabs n < 0) (r : Int32) : ∀ (k t : Nat) (b : Int32) (f : Nat → Int32) (hy_f : hZ f), t + k = 6 → r = sBits (fun t => tUnk (S ln) (I (51 + 2 * q + 1)) (sz q) n sp (kVar 0 (nI t) (hStd (I (17 + 2 * i))))) k t b → Q_X_kinds_0 l G d nn I ln S q i n sp r t b f := by
  obtain ⟨⟨h10, h5⟩, ⟨h11, h6⟩, ⟨h12, hl⟩, hTs, hR⟩ := id hK
  intro k
  induction k with
  | zero =>
    intro t b f hy_f hk hr
    unfold Q_X_kinds_0
    refine X_iload d_X_kinds_75 rfl ?_
    refine X_iload d_X_kinds_77 rfl ?_
    refine X_icmp_ge (tgt := 218) d_X_kinds_79 (by decide) (fun _ => ?_) (fun c_1 => absurd c_1 (not_not_intro (show nI 6 ≤ nI t from nI_le (by omega) (by omega))))
    refine X_iload d_X_kinds_218 rfl ?_
    exact X_iret rfl (congrArg (fun q => some (Value.int q)) (by rw [hr]; first | (simp [sBits, tUnk, kVar]; done) | simp_all [sBits, tUnk, kVar])) (xle_3 (fun k hk => by simp only [xup_n _ _ hk])) d_X_kinds_220
  | succ k ih =>
    intro t b f hy_f hk hr
    unfold Q_X_kinds_0
    refine X_iload d_X_kinds_75 rfl ?_
    refine X_iload d_X_kinds_77 rfl ?_
    refine X_icmp_ge (tgt := 218) d_X_kinds_79 (by decide) (fun c_1 => absurd c_1 (show ¬ nI 6 ≤ nI t from nI_ge (by omega) (by omega))) (fun _ => ?_)
    refine X_aload_n d_X_kinds_82 rfl rfl ?_
    refine X_aload_n d_X_kinds_83 rfl rfl ?_
    refine X_iload_n d_X_kinds_84 rfl rfl ?_
    refine X_callV (v := .ref (xg G (17 + 2 * i))) (rest := [.ref (xg G 0)]) (c_X_headAt l G nn (xup xYf 3 (some sHead)) (xup I 3 f) (by omega) (xYok_3 xYok_f _) i (by omega)) lk_X_headAt ml_X_124 (xm_obj (y0 (xYok_3 xYok_f _))) rfl rfl (Nat.le_of_ble_eq_true rfl) (xRok (d' := d - 1) (by omega) (by decide)) ⟨Nat.le_refl _, Nat.le_refl _⟩ d_X_kinds_85 rfl ?_
    refine X_callVv (rest := []) (k_X_think l G nn (xup xYf 3 (some sHead)) (xup I 3 f) (by omega) (xYok_3 xYok_f _) (show (xup xYf 3 (some sHead)) 3 = some sHead from rfl) (17 + 2 * i) (yH (xYok_3 xYok_f _) (show i < 5 by omega)) (by omega) f (I (17 + 2 * i)) (xup_s _ _ _) (xup_n _ _ (by omega)) (hR _ (by omega)) hy_f) lk_X_think ml_X_205 (xm_obj (y0 (xYok_3 xYok_f _))) rfl rfl (Nat.le_of_ble_eq_true rfl) (xRok (d' := d - 1) (by omega) (by decide)) ⟨Nat.le_refl _, Nat.le_refl _⟩ d_X_kinds_88 rfl ?_
    rw [xup_up]
    refine X_aload_n d_X_kinds_91 rfl rfl ?_
    refine X_getR (r := 3) fg_X_19 (y0 (xYok_3 xYok_f _)) rfl d_X_kinds_92 ?_
    refine X_iload d_X_kinds_95 rfl ?_
    refine X_if_ne (tgt := 105) d_X_kinds_97 (by decide) (fun c_2 => absurd c_2 (by decide)) (fun _ => ?_)
    refine X_iload d_X_kinds_100 rfl ?_
    refine X_goto (tgt := 112) d_X_kinds_102 (by decide) ?_
    refine X_putI fp_X_150 (show (xup xYf 3 (some sHead)) 3 = some sHead from rfl) rfl d_X_kinds_112 ?_
    rw [xw_rec]
    refine X_aload_n d_X_kinds_115 rfl rfl ?_
    refine X_getR (r := 3) fg_X_19 (y0 (xYok_3 xYok_f _)) rfl d_X_kinds_116 ?_
    refine X_iload d_X_kinds_119 rfl ?_
    refine X_iconst (v := 1) d_X_kinds_121 rfl ?_
    refine X_icmp_ne (tgt := 130) d_X_kinds_122 (by decide) (fun _ => ?_) (fun c_3 => absurd c_3 (by decide))
    refine X_aload_n d_X_kinds_130 rfl rfl ?_
    refine X_getR (r := 3) fg_X_19 (y0 (xYok_3 xYok_f _)) rfl d_X_kinds_131 ?_
    refine X_getI (v := (xup (hStd (I (17 + 2 * i))) 0 (nI t)) 1) fg_X_153 (show (xup xYf 3 (some sHead)) 3 = some sHead from rfl) rfl (congrFun (xup_s _ _ _) _) d_X_kinds_134 ?_
    refine X_putI fp_X_153 (show (xup xYf 3 (some sHead)) 3 = some sHead from rfl) rfl d_X_kinds_137 ?_
    rw [xw_rec]
    rw [xup_self]
    refine X_aload_n d_X_kinds_140 rfl rfl ?_
    refine X_getR (r := 3) fg_X_19 (y0 (xYok_3 xYok_f _)) rfl d_X_kinds_141 ?_
    refine X_iload d_X_kinds_144 rfl ?_
    refine X_iconst (v := 2) d_X_kinds_146 rfl ?_
    refine X_icmp_ne (tgt := 155) d_X_kinds_147 (by decide) (fun _ => ?_) (fun c_4 => absurd c_4 (by decide))
    refine X_aload_n d_X_kinds_155 rfl rfl ?_
    refine X_getR (r := 3) fg_X_19 (y0 (xYok_3 xYok_f _)) rfl d_X_kinds_156 ?_
    refine X_getI (v := (xup (hStd (I (17 + 2 * i))) 0 (nI t)) 3) fg_X_143 (show (xup xYf 3 (some sHead)) 3 = some sHead from rfl) rfl (congrFun (xup_s _ _ _) _) d_X_kinds_159 ?_
    refine X_putI fp_X_143 (show (xup xYf 3 (some sHead)) 3 = some sHead from rfl) rfl d_X_kinds_162 ?_
    rw [xw_rec]
    rw [xup_self]
    refine X_aload_n d_X_kinds_165 rfl rfl ?_
    refine X_getR (r := 3) fg_X_19 (y0 (xYok_3 xYok_f _)) rfl d_X_kinds_166 ?_
    refine X_aload_n d_X_kinds_169 rfl rfl ?_
    refine X_callV (v := .ref (xg G (27 + 4 * ln))) (rest := [.ref (xg G 3)]) (c_X_law l G nn (xup xYf 3 (some sHead)) (xup I 3 (xup (hStd (I (17 + 2 * i))) 0 (nI t))) (by omega) (xYok_3 xYok_f _) ln (by omega) ((congrFun (xup_n _ _ (by decide)) _).trans (h12))) lk_X_law ml_X_120 (xm_obj (y0 (xYok_3 xYok_f _))) rfl rfl (Nat.le_of_ble_eq_true rfl) (xRok (d' := d - 1) (by omega) (by decide)) ⟨Nat.le_refl _, Nat.le_refl _⟩ d_X_kinds_170 rfl ?_
    refine X_iload_n d_X_kinds_173 rfl rfl ?_
    refine X_iload d_X_kinds_174 rfl ?_
    refine X_bipush (v := 10) d_X_kinds_176 rfl ?_
    refine X_idiv d_X_kinds_178 (by decide) ?_
    refine X_callVv (rest := []) (k_Head_spin l G nn (xup xYf 3 (some sHead)) (xup I 3 (xup (hStd (I (17 + 2 * i))) 0 (nI t))) (by omega) 3 (show (xup xYf 3 (some sHead)) 3 = some sHead from rfl) (27 + 4 * ln) (S ln) (xTx_up (xTx_Y (xYok_3 xYok_f _) (show ln < 6 by omega) (hTs ln hl)) (show (xup xYf 3 (some sHead)) 3 = some sHead from rfl)) n (sp / 10) hn (xup (hStd (I (17 + 2 * i))) 0 (nI t)) (xup_s _ _ _)) lk_Head_spin ml_X_175 (xm_obj (show (xup xYf 3 (some sHead)) 3 = some sHead from rfl)) rfl rfl (Nat.le_of_ble_eq_true rfl) (xRok (d' := d - 1) (by omega) (by decide)) ⟨Nat.le_refl _, Nat.le_refl _⟩ d_X_kinds_179 rfl ?_
    rw [xup_up]
    refine X_aload_n d_X_kinds_182 rfl rfl ?_
    refine X_aload_n d_X_kinds_183 rfl rfl ?_
    refine X_iload_n d_X_kinds_184 rfl rfl ?_
    refine X_callV (v := .ref (xg G (51 + 2 * q))) (rest := [.ref (xg G 0)]) (c_X_sheetAt l G nn (xup xYf 3 (some sHead)) (xup I 3 (hSpin (S ln) n (sp / 10) (xup (hStd (I (17 + 2 * i))) 0 (nI t)))) (by omega) (xYok_3 xYok_f _) q (by omega)) lk_X_sheetAt ml_X_256 (xm_obj (y0 (xYok_3 xYok_f _))) rfl rfl (Nat.le_of_ble_eq_true rfl) (xRok (d' := d - 1) (by omega) (by decide)) ⟨Nat.le_refl _, Nat.le_refl _⟩ d_X_kinds_185 rfl ?_
    refine X_aload_n d_X_kinds_188 rfl rfl ?_
    refine X_callV (v := .ref (xg G (27 + 4 * ln))) (rest := [.ref (xg G (51 + 2 * q)), .ref (xg G 0)]) (c_X_law l G nn (xup xYf 3 (some sHead)) (xup I 3 (hSpin (S ln) n (sp / 10) (xup (hStd (I (17 + 2 * i))) 0 (nI t)))) (by omega) (xYok_3 xYok_f _) ln (by omega) ((congrFun (xup_n _ _ (by decide)) _).trans (h12))) lk_X_law ml_X_120 (xm_obj (y0 (xYok_3 xYok_f _))) rfl rfl (Nat.le_of_ble_eq_true rfl) (xRok (d' := d - 1) (by omega) (by decide)) ⟨Nat.le_refl _, Nat.le_refl _⟩ d_X_kinds_189 rfl ?_
    refine X_iload d_X_kinds_192 rfl ?_
    refine X_bipush (v := 10) d_X_kinds_194 rfl ?_
    refine X_irem d_X_kinds_196 (by decide) ?_
    refine X_callV (v := .int ((sFO (S ln) (sp - sp / 10 * 10) (I (51 + 2 * q + 1)) (sz q) 0 (hSpin (S ln) n (sp / 10) (xup (hStd (I (17 + 2 * i))) 0 (nI t)))).1)) (rest := []) (k_X_firstOtherwise l G nn (xup xYf 3 (some sHead)) (xup I 3 (hSpin (S ln) n (sp / 10) (xup (hStd (I (17 + 2 * i))) 0 (nI t)))) (by omega) (xYok_3 xYok_f _) (show (xup xYf 3 (some sHead)) 3 = some sHead from rfl) q (27 + 4 * ln) (by omega) (sz q) ((congrFun (xup_n _ _ (by omega)) _).trans ((hsz q (by omega)).1)) (hsz q (by omega)).2 (S ln) (xTx_up (xTx_Y (xYok_3 xYok_f _) (show ln < 6 by omega) (hTs ln hl)) (show (xup xYf 3 (some sHead)) 3 = some sHead from rfl)) (sp - sp / 10 * 10) (hSpin (S ln) n (sp / 10) (xup (hStd (I (17 + 2 * i))) 0 (nI t))) (I (51 + 2 * q + 1)) (xup_s _ _ _) (xup_n _ _ (by omega))) lk_X_firstOtherwise ml_X_260 (xm_obj (y0 (xYok_3 xYok_f _))) rfl rfl (Nat.le_of_ble_eq_true rfl) (xRok (d' := d - 1) (by omega) (by decide)) ⟨Nat.le_refl _, Nat.le_refl _⟩ d_X_kinds_197 rfl ?_
    rw [xup_up]
    refine X_if_ge (tgt := 212) d_X_kinds_200 (by decide) (fun c_5 => ?_) (fun c_5 => ?_)
    ·
      refine X_iinc d_X_kinds_212 rfl (v := (nI t) + 1) rfl (by decide) [1, 2, 3, 4, 5, 6, 7, 8, 0] (L' := [(0, .ref (xg G 0)), (1, .int (nI q)), (2, .int (nI i)), (3, .int n), (4, .int sp), (5, .int 0), (7, .int 6), (8, .int b), (9, .int ((nI t) + 1))]) rfl ?_
      refine X_goto (tgt := 75) d_X_kinds_215 (by decide) ?_
      simp only [nI_1]
      exact ih (t + 1) _ _ (hOK_FO _ _ _ _ _ (hOK_spin _ _ _ (hOK_up (hOK_sd (hR _ (by omega))) (by decide) _))).2 (by omega) (by rw [hr]; simp [sBits, tUnk, kVar, c_5, Int32.not_lt.mpr c_5])
    ·
      refine X_iload d_X_kinds_203 rfl ?_
      refine X_iconst (v := 1) d_X_kinds_205 rfl ?_
      refine X_iload d_X_kinds_206 rfl ?_
      refine X_ishl d_X_kinds_208 ?_
      refine X_ior d_X_kinds_209 ?_
      refine X_istore d_X_kinds_210 (by decide) [1, 2, 3, 4, 5, 6, 7, 0, 8] (L' := [(0, .ref (xg G 0)), (1, .int (nI q)), (2, .int (nI i)), (3, .int n), (4, .int sp), (5, .int 0), (7, .int 6), (8, .int (b ||| (1 <<< ((nI t) &&& 31)))), (9, .int (nI t))]) rfl ?_
      refine X_iinc d_X_kinds_212 rfl (v := (nI t) + 1) rfl (by decide) [1, 2, 3, 4, 5, 6, 7, 8, 0] (L' := [(0, .ref (xg G 0)), (1, .int (nI q)), (2, .int (nI i)), (3, .int n), (4, .int sp), (5, .int 0), (7, .int 6), (8, .int (b ||| (1 <<< ((nI t) &&& 31)))), (9, .int ((nI t) + 1))]) rfl ?_
      refine X_goto (tgt := 75) d_X_kinds_215 (by decide) ?_
      simp only [nI_1]
      exact ih (t + 1) _ _ (hOK_FO _ _ _ _ _ (hOK_spin _ _ _ (hOK_up (hOK_sd (hR _ (by omega))) (by decide) _))).2 (by omega) (by rw [hr]; simp [sBits, tUnk, kVar, c_5, Int32.not_le.mp c_5])
def Q_X_kinds_1 (l : Launch) (G : xG) (d nn : Nat) (I : xI) (ln : Nat) (S : Nat → xSay) (q : Nat) (i : Nat) (n : Int32) (sp : Int32) (r : Int32) (t : Nat) (b : Int32) (f : Nat → Int32) : Prop := XW l G (xR d 0 0) y_X_kinds b_X_kinds 10 (some .int) xK0 (xZ G nn (xm G xYf (I)) (some (.int r)) 0 0) nn (xm G (xup xYf 3 (some sHead)) (xup I 3 f)) 0 0 75 [(0, .ref (xg G 0)), (1, .int (nI q)), (2, .int (nI i)), (3, .int n), (4, .int sp), (5, .int 1), (7, .int 10), (8, .int b), (9, .int (nI t))] []
theorem w_X_kinds_1 (l : Launch) (G : xG) {d : Nat} (nn : Nat) (I : xI) (hd : 10 ≤ d) (hc tc ln : Nat) (S : Nat → xSay) (hK : cOK I hc tc ln S) (sz : Nat → Nat) (hsz : sOK I sz) (q : Nat) (i : Nat) (n : Int32) (sp : Int32) (hq : q < 4) (hi : i < hc) (hn : ¬ xabs n < 0) (r : Int32) : ∀ (k t : Nat) (b : Int32) (f : Nat → Int32) (hy_f : hZ f), t + k = 10 → r = sBits (fun t => tUnk (S ln) (I (51 + 2 * q + 1)) (sz q) n sp (kVar 1 (nI t) (hStd (I (17 + 2 * i))))) k t b → Q_X_kinds_1 l G d nn I ln S q i n sp r t b f := by
  obtain ⟨⟨h10, h5⟩, ⟨h11, h6⟩, ⟨h12, hl⟩, hTs, hR⟩ := id hK
  intro k
  induction k with
  | zero =>
    intro t b f hy_f hk hr
    unfold Q_X_kinds_1
    refine X_iload d_X_kinds_75 rfl ?_
    refine X_iload d_X_kinds_77 rfl ?_
    refine X_icmp_ge (tgt := 218) d_X_kinds_79 (by decide) (fun _ => ?_) (fun c_1 => absurd c_1 (not_not_intro (show nI 10 ≤ nI t from nI_le (by omega) (by omega))))
    refine X_iload d_X_kinds_218 rfl ?_
    exact X_iret rfl (congrArg (fun q => some (Value.int q)) (by rw [hr]; first | (simp [sBits, tUnk, kVar]; done) | simp_all [sBits, tUnk, kVar])) (xle_3 (fun k hk => by simp only [xup_n _ _ hk])) d_X_kinds_220
  | succ k ih =>
    intro t b f hy_f hk hr
    unfold Q_X_kinds_1
    refine X_iload d_X_kinds_75 rfl ?_
    refine X_iload d_X_kinds_77 rfl ?_
    refine X_icmp_ge (tgt := 218) d_X_kinds_79 (by decide) (fun c_1 => absurd c_1 (show ¬ nI 10 ≤ nI t from nI_ge (by omega) (by omega))) (fun _ => ?_)
    refine X_aload_n d_X_kinds_82 rfl rfl ?_
    refine X_aload_n d_X_kinds_83 rfl rfl ?_
    refine X_iload_n d_X_kinds_84 rfl rfl ?_
    refine X_callV (v := .ref (xg G (17 + 2 * i))) (rest := [.ref (xg G 0)]) (c_X_headAt l G nn (xup xYf 3 (some sHead)) (xup I 3 f) (by omega) (xYok_3 xYok_f _) i (by omega)) lk_X_headAt ml_X_124 (xm_obj (y0 (xYok_3 xYok_f _))) rfl rfl (Nat.le_of_ble_eq_true rfl) (xRok (d' := d - 1) (by omega) (by decide)) ⟨Nat.le_refl _, Nat.le_refl _⟩ d_X_kinds_85 rfl ?_
    refine X_callVv (rest := []) (k_X_think l G nn (xup xYf 3 (some sHead)) (xup I 3 f) (by omega) (xYok_3 xYok_f _) (show (xup xYf 3 (some sHead)) 3 = some sHead from rfl) (17 + 2 * i) (yH (xYok_3 xYok_f _) (show i < 5 by omega)) (by omega) f (I (17 + 2 * i)) (xup_s _ _ _) (xup_n _ _ (by omega)) (hR _ (by omega)) hy_f) lk_X_think ml_X_205 (xm_obj (y0 (xYok_3 xYok_f _))) rfl rfl (Nat.le_of_ble_eq_true rfl) (xRok (d' := d - 1) (by omega) (by decide)) ⟨Nat.le_refl _, Nat.le_refl _⟩ d_X_kinds_88 rfl ?_
    rw [xup_up]
    refine X_aload_n d_X_kinds_91 rfl rfl ?_
    refine X_getR (r := 3) fg_X_19 (y0 (xYok_3 xYok_f _)) rfl d_X_kinds_92 ?_
    refine X_iload d_X_kinds_95 rfl ?_
    refine X_if_ne (tgt := 105) d_X_kinds_97 (by decide) (fun _ => ?_) (fun c_2 => absurd c_2 (by decide))
    refine X_aload_n d_X_kinds_105 rfl rfl ?_
    refine X_getR (r := 3) fg_X_19 (y0 (xYok_3 xYok_f _)) rfl d_X_kinds_106 ?_
    refine X_getI (v := (hStd (I (17 + 2 * i))) 0) fg_X_150 (show (xup xYf 3 (some sHead)) 3 = some sHead from rfl) rfl (congrFun (xup_s _ _ _) _) d_X_kinds_109 ?_
    refine X_putI fp_X_150 (show (xup xYf 3 (some sHead)) 3 = some sHead from rfl) rfl d_X_kinds_112 ?_
    rw [xw_rec]
    rw [xup_self]
    refine X_aload_n d_X_kinds_115 rfl rfl ?_
    refine X_getR (r := 3) fg_X_19 (y0 (xYok_3 xYok_f _)) rfl d_X_kinds_116 ?_
    refine X_iload d_X_kinds_119 rfl ?_
    refine X_iconst (v := 1) d_X_kinds_121 rfl ?_
    refine X_icmp_ne (tgt := 130) d_X_kinds_122 (by decide) (fun c_3 => absurd c_3 (by decide)) (fun _ => ?_)
    refine X_iload d_X_kinds_125 rfl ?_
    refine X_goto (tgt := 137) d_X_kinds_127 (by decide) ?_
    refine X_putI fp_X_153 (show (xup xYf 3 (some sHead)) 3 = some sHead from rfl) rfl d_X_kinds_137 ?_
    rw [xw_rec]
    refine X_aload_n d_X_kinds_140 rfl rfl ?_
    refine X_getR (r := 3) fg_X_19 (y0 (xYok_3 xYok_f _)) rfl d_X_kinds_141 ?_
    refine X_iload d_X_kinds_144 rfl ?_
    refine X_iconst (v := 2) d_X_kinds_146 rfl ?_
    refine X_icmp_ne (tgt := 155) d_X_kinds_147 (by decide) (fun _ => ?_) (fun c_4 => absurd c_4 (by decide))
    refine X_aload_n d_X_kinds_155 rfl rfl ?_
    refine X_getR (r := 3) fg_X_19 (y0 (xYok_3 xYok_f _)) rfl d_X_kinds_156 ?_
    refine X_getI (v := (xup (hStd (I (17 + 2 * i))) 1 (nI t)) 3) fg_X_143 (show (xup xYf 3 (some sHead)) 3 = some sHead from rfl) rfl (congrFun (xup_s _ _ _) _) d_X_kinds_159 ?_
    refine X_putI fp_X_143 (show (xup xYf 3 (some sHead)) 3 = some sHead from rfl) rfl d_X_kinds_162 ?_
    rw [xw_rec]
    rw [xup_self]
    refine X_aload_n d_X_kinds_165 rfl rfl ?_
    refine X_getR (r := 3) fg_X_19 (y0 (xYok_3 xYok_f _)) rfl d_X_kinds_166 ?_
    refine X_aload_n d_X_kinds_169 rfl rfl ?_
    refine X_callV (v := .ref (xg G (27 + 4 * ln))) (rest := [.ref (xg G 3)]) (c_X_law l G nn (xup xYf 3 (some sHead)) (xup I 3 (xup (hStd (I (17 + 2 * i))) 1 (nI t))) (by omega) (xYok_3 xYok_f _) ln (by omega) ((congrFun (xup_n _ _ (by decide)) _).trans (h12))) lk_X_law ml_X_120 (xm_obj (y0 (xYok_3 xYok_f _))) rfl rfl (Nat.le_of_ble_eq_true rfl) (xRok (d' := d - 1) (by omega) (by decide)) ⟨Nat.le_refl _, Nat.le_refl _⟩ d_X_kinds_170 rfl ?_
    refine X_iload_n d_X_kinds_173 rfl rfl ?_
    refine X_iload d_X_kinds_174 rfl ?_
    refine X_bipush (v := 10) d_X_kinds_176 rfl ?_
    refine X_idiv d_X_kinds_178 (by decide) ?_
    refine X_callVv (rest := []) (k_Head_spin l G nn (xup xYf 3 (some sHead)) (xup I 3 (xup (hStd (I (17 + 2 * i))) 1 (nI t))) (by omega) 3 (show (xup xYf 3 (some sHead)) 3 = some sHead from rfl) (27 + 4 * ln) (S ln) (xTx_up (xTx_Y (xYok_3 xYok_f _) (show ln < 6 by omega) (hTs ln hl)) (show (xup xYf 3 (some sHead)) 3 = some sHead from rfl)) n (sp / 10) hn (xup (hStd (I (17 + 2 * i))) 1 (nI t)) (xup_s _ _ _)) lk_Head_spin ml_X_175 (xm_obj (show (xup xYf 3 (some sHead)) 3 = some sHead from rfl)) rfl rfl (Nat.le_of_ble_eq_true rfl) (xRok (d' := d - 1) (by omega) (by decide)) ⟨Nat.le_refl _, Nat.le_refl _⟩ d_X_kinds_179 rfl ?_
    rw [xup_up]
    refine X_aload_n d_X_kinds_182 rfl rfl ?_
    refine X_aload_n d_X_kinds_183 rfl rfl ?_
    refine X_iload_n d_X_kinds_184 rfl rfl ?_
    refine X_callV (v := .ref (xg G (51 + 2 * q))) (rest := [.ref (xg G 0)]) (c_X_sheetAt l G nn (xup xYf 3 (some sHead)) (xup I 3 (hSpin (S ln) n (sp / 10) (xup (hStd (I (17 + 2 * i))) 1 (nI t)))) (by omega) (xYok_3 xYok_f _) q (by omega)) lk_X_sheetAt ml_X_256 (xm_obj (y0 (xYok_3 xYok_f _))) rfl rfl (Nat.le_of_ble_eq_true rfl) (xRok (d' := d - 1) (by omega) (by decide)) ⟨Nat.le_refl _, Nat.le_refl _⟩ d_X_kinds_185 rfl ?_
    refine X_aload_n d_X_kinds_188 rfl rfl ?_
    refine X_callV (v := .ref (xg G (27 + 4 * ln))) (rest := [.ref (xg G (51 + 2 * q)), .ref (xg G 0)]) (c_X_law l G nn (xup xYf 3 (some sHead)) (xup I 3 (hSpin (S ln) n (sp / 10) (xup (hStd (I (17 + 2 * i))) 1 (nI t)))) (by omega) (xYok_3 xYok_f _) ln (by omega) ((congrFun (xup_n _ _ (by decide)) _).trans (h12))) lk_X_law ml_X_120 (xm_obj (y0 (xYok_3 xYok_f _))) rfl rfl (Nat.le_of_ble_eq_true rfl) (xRok (d' := d - 1) (by omega) (by decide)) ⟨Nat.le_refl _, Nat.le_refl _⟩ d_X_kinds_189 rfl ?_
    refine X_iload d_X_kinds_192 rfl ?_
    refine X_bipush (v := 10) d_X_kinds_194 rfl ?_
    refine X_irem d_X_kinds_196 (by decide) ?_
    refine X_callV (v := .int ((sFO (S ln) (sp - sp / 10 * 10) (I (51 + 2 * q + 1)) (sz q) 0 (hSpin (S ln) n (sp / 10) (xup (hStd (I (17 + 2 * i))) 1 (nI t)))).1)) (rest := []) (k_X_firstOtherwise l G nn (xup xYf 3 (some sHead)) (xup I 3 (hSpin (S ln) n (sp / 10) (xup (hStd (I (17 + 2 * i))) 1 (nI t)))) (by omega) (xYok_3 xYok_f _) (show (xup xYf 3 (some sHead)) 3 = some sHead from rfl) q (27 + 4 * ln) (by omega) (sz q) ((congrFun (xup_n _ _ (by omega)) _).trans ((hsz q (by omega)).1)) (hsz q (by omega)).2 (S ln) (xTx_up (xTx_Y (xYok_3 xYok_f _) (show ln < 6 by omega) (hTs ln hl)) (show (xup xYf 3 (some sHead)) 3 = some sHead from rfl)) (sp - sp / 10 * 10) (hSpin (S ln) n (sp / 10) (xup (hStd (I (17 + 2 * i))) 1 (nI t))) (I (51 + 2 * q + 1)) (xup_s _ _ _) (xup_n _ _ (by omega))) lk_X_firstOtherwise ml_X_260 (xm_obj (y0 (xYok_3 xYok_f _))) rfl rfl (Nat.le_of_ble_eq_true rfl) (xRok (d' := d - 1) (by omega) (by decide)) ⟨Nat.le_refl _, Nat.le_refl _⟩ d_X_kinds_197 rfl ?_
    rw [xup_up]
    refine X_if_ge (tgt := 212) d_X_kinds_200 (by decide) (fun c_5 => ?_) (fun c_5 => ?_)
    ·
      refine X_iinc d_X_kinds_212 rfl (v := (nI t) + 1) rfl (by decide) [1, 2, 3, 4, 5, 6, 7, 8, 0] (L' := [(0, .ref (xg G 0)), (1, .int (nI q)), (2, .int (nI i)), (3, .int n), (4, .int sp), (5, .int 1), (7, .int 10), (8, .int b), (9, .int ((nI t) + 1))]) rfl ?_
      refine X_goto (tgt := 75) d_X_kinds_215 (by decide) ?_
      simp only [nI_1]
      exact ih (t + 1) _ _ (hOK_FO _ _ _ _ _ (hOK_spin _ _ _ (hOK_up (hOK_sd (hR _ (by omega))) (by decide) _))).2 (by omega) (by rw [hr]; simp [sBits, tUnk, kVar, c_5, Int32.not_lt.mpr c_5])
    ·
      refine X_iload d_X_kinds_203 rfl ?_
      refine X_iconst (v := 1) d_X_kinds_205 rfl ?_
      refine X_iload d_X_kinds_206 rfl ?_
      refine X_ishl d_X_kinds_208 ?_
      refine X_ior d_X_kinds_209 ?_
      refine X_istore d_X_kinds_210 (by decide) [1, 2, 3, 4, 5, 6, 7, 0, 8] (L' := [(0, .ref (xg G 0)), (1, .int (nI q)), (2, .int (nI i)), (3, .int n), (4, .int sp), (5, .int 1), (7, .int 10), (8, .int (b ||| (1 <<< ((nI t) &&& 31)))), (9, .int (nI t))]) rfl ?_
      refine X_iinc d_X_kinds_212 rfl (v := (nI t) + 1) rfl (by decide) [1, 2, 3, 4, 5, 6, 7, 8, 0] (L' := [(0, .ref (xg G 0)), (1, .int (nI q)), (2, .int (nI i)), (3, .int n), (4, .int sp), (5, .int 1), (7, .int 10), (8, .int (b ||| (1 <<< ((nI t) &&& 31)))), (9, .int ((nI t) + 1))]) rfl ?_
      refine X_goto (tgt := 75) d_X_kinds_215 (by decide) ?_
      simp only [nI_1]
      exact ih (t + 1) _ _ (hOK_FO _ _ _ _ _ (hOK_spin _ _ _ (hOK_up (hOK_sd (hR _ (by omega))) (by decide) _))).2 (by omega) (by rw [hr]; simp [sBits, tUnk, kVar, c_5, Int32.not_le.mp c_5])
def Q_X_kinds_2 (l : Launch) (G : xG) (d nn : Nat) (I : xI) (ln : Nat) (S : Nat → xSay) (q : Nat) (i : Nat) (n : Int32) (sp : Int32) (r : Int32) (t : Nat) (b : Int32) (f : Nat → Int32) : Prop := XW l G (xR d 0 0) y_X_kinds b_X_kinds 10 (some .int) xK0 (xZ G nn (xm G xYf (I)) (some (.int r)) 0 0) nn (xm G (xup xYf 3 (some sHead)) (xup I 3 f)) 0 0 75 [(0, .ref (xg G 0)), (1, .int (nI q)), (2, .int (nI i)), (3, .int n), (4, .int sp), (5, .int 2), (7, .int 10), (8, .int b), (9, .int (nI t))] []
theorem w_X_kinds_2 (l : Launch) (G : xG) {d : Nat} (nn : Nat) (I : xI) (hd : 10 ≤ d) (hc tc ln : Nat) (S : Nat → xSay) (hK : cOK I hc tc ln S) (sz : Nat → Nat) (hsz : sOK I sz) (q : Nat) (i : Nat) (n : Int32) (sp : Int32) (hq : q < 4) (hi : i < hc) (hn : ¬ xabs n < 0) (r : Int32) : ∀ (k t : Nat) (b : Int32) (f : Nat → Int32) (hy_f : hZ f), t + k = 10 → r = sBits (fun t => tUnk (S ln) (I (51 + 2 * q + 1)) (sz q) n sp (kVar 2 (nI t) (hStd (I (17 + 2 * i))))) k t b → Q_X_kinds_2 l G d nn I ln S q i n sp r t b f := by
  obtain ⟨⟨h10, h5⟩, ⟨h11, h6⟩, ⟨h12, hl⟩, hTs, hR⟩ := id hK
  intro k
  induction k with
  | zero =>
    intro t b f hy_f hk hr
    unfold Q_X_kinds_2
    refine X_iload d_X_kinds_75 rfl ?_
    refine X_iload d_X_kinds_77 rfl ?_
    refine X_icmp_ge (tgt := 218) d_X_kinds_79 (by decide) (fun _ => ?_) (fun c_1 => absurd c_1 (not_not_intro (show nI 10 ≤ nI t from nI_le (by omega) (by omega))))
    refine X_iload d_X_kinds_218 rfl ?_
    exact X_iret rfl (congrArg (fun q => some (Value.int q)) (by rw [hr]; first | (simp [sBits, tUnk, kVar]; done) | simp_all [sBits, tUnk, kVar])) (xle_3 (fun k hk => by simp only [xup_n _ _ hk])) d_X_kinds_220
  | succ k ih =>
    intro t b f hy_f hk hr
    unfold Q_X_kinds_2
    refine X_iload d_X_kinds_75 rfl ?_
    refine X_iload d_X_kinds_77 rfl ?_
    refine X_icmp_ge (tgt := 218) d_X_kinds_79 (by decide) (fun c_1 => absurd c_1 (show ¬ nI 10 ≤ nI t from nI_ge (by omega) (by omega))) (fun _ => ?_)
    refine X_aload_n d_X_kinds_82 rfl rfl ?_
    refine X_aload_n d_X_kinds_83 rfl rfl ?_
    refine X_iload_n d_X_kinds_84 rfl rfl ?_
    refine X_callV (v := .ref (xg G (17 + 2 * i))) (rest := [.ref (xg G 0)]) (c_X_headAt l G nn (xup xYf 3 (some sHead)) (xup I 3 f) (by omega) (xYok_3 xYok_f _) i (by omega)) lk_X_headAt ml_X_124 (xm_obj (y0 (xYok_3 xYok_f _))) rfl rfl (Nat.le_of_ble_eq_true rfl) (xRok (d' := d - 1) (by omega) (by decide)) ⟨Nat.le_refl _, Nat.le_refl _⟩ d_X_kinds_85 rfl ?_
    refine X_callVv (rest := []) (k_X_think l G nn (xup xYf 3 (some sHead)) (xup I 3 f) (by omega) (xYok_3 xYok_f _) (show (xup xYf 3 (some sHead)) 3 = some sHead from rfl) (17 + 2 * i) (yH (xYok_3 xYok_f _) (show i < 5 by omega)) (by omega) f (I (17 + 2 * i)) (xup_s _ _ _) (xup_n _ _ (by omega)) (hR _ (by omega)) hy_f) lk_X_think ml_X_205 (xm_obj (y0 (xYok_3 xYok_f _))) rfl rfl (Nat.le_of_ble_eq_true rfl) (xRok (d' := d - 1) (by omega) (by decide)) ⟨Nat.le_refl _, Nat.le_refl _⟩ d_X_kinds_88 rfl ?_
    rw [xup_up]
    refine X_aload_n d_X_kinds_91 rfl rfl ?_
    refine X_getR (r := 3) fg_X_19 (y0 (xYok_3 xYok_f _)) rfl d_X_kinds_92 ?_
    refine X_iload d_X_kinds_95 rfl ?_
    refine X_if_ne (tgt := 105) d_X_kinds_97 (by decide) (fun _ => ?_) (fun c_2 => absurd c_2 (by decide))
    refine X_aload_n d_X_kinds_105 rfl rfl ?_
    refine X_getR (r := 3) fg_X_19 (y0 (xYok_3 xYok_f _)) rfl d_X_kinds_106 ?_
    refine X_getI (v := (hStd (I (17 + 2 * i))) 0) fg_X_150 (show (xup xYf 3 (some sHead)) 3 = some sHead from rfl) rfl (congrFun (xup_s _ _ _) _) d_X_kinds_109 ?_
    refine X_putI fp_X_150 (show (xup xYf 3 (some sHead)) 3 = some sHead from rfl) rfl d_X_kinds_112 ?_
    rw [xw_rec]
    rw [xup_self]
    refine X_aload_n d_X_kinds_115 rfl rfl ?_
    refine X_getR (r := 3) fg_X_19 (y0 (xYok_3 xYok_f _)) rfl d_X_kinds_116 ?_
    refine X_iload d_X_kinds_119 rfl ?_
    refine X_iconst (v := 1) d_X_kinds_121 rfl ?_
    refine X_icmp_ne (tgt := 130) d_X_kinds_122 (by decide) (fun _ => ?_) (fun c_3 => absurd c_3 (by decide))
    refine X_aload_n d_X_kinds_130 rfl rfl ?_
    refine X_getR (r := 3) fg_X_19 (y0 (xYok_3 xYok_f _)) rfl d_X_kinds_131 ?_
    refine X_getI (v := (hStd (I (17 + 2 * i))) 1) fg_X_153 (show (xup xYf 3 (some sHead)) 3 = some sHead from rfl) rfl (congrFun (xup_s _ _ _) _) d_X_kinds_134 ?_
    refine X_putI fp_X_153 (show (xup xYf 3 (some sHead)) 3 = some sHead from rfl) rfl d_X_kinds_137 ?_
    rw [xw_rec]
    rw [xup_self]
    refine X_aload_n d_X_kinds_140 rfl rfl ?_
    refine X_getR (r := 3) fg_X_19 (y0 (xYok_3 xYok_f _)) rfl d_X_kinds_141 ?_
    refine X_iload d_X_kinds_144 rfl ?_
    refine X_iconst (v := 2) d_X_kinds_146 rfl ?_
    refine X_icmp_ne (tgt := 155) d_X_kinds_147 (by decide) (fun c_4 => absurd c_4 (by decide)) (fun _ => ?_)
    refine X_iload d_X_kinds_150 rfl ?_
    refine X_goto (tgt := 162) d_X_kinds_152 (by decide) ?_
    refine X_putI fp_X_143 (show (xup xYf 3 (some sHead)) 3 = some sHead from rfl) rfl d_X_kinds_162 ?_
    rw [xw_rec]
    refine X_aload_n d_X_kinds_165 rfl rfl ?_
    refine X_getR (r := 3) fg_X_19 (y0 (xYok_3 xYok_f _)) rfl d_X_kinds_166 ?_
    refine X_aload_n d_X_kinds_169 rfl rfl ?_
    refine X_callV (v := .ref (xg G (27 + 4 * ln))) (rest := [.ref (xg G 3)]) (c_X_law l G nn (xup xYf 3 (some sHead)) (xup I 3 (xup (hStd (I (17 + 2 * i))) 3 (nI t))) (by omega) (xYok_3 xYok_f _) ln (by omega) ((congrFun (xup_n _ _ (by decide)) _).trans (h12))) lk_X_law ml_X_120 (xm_obj (y0 (xYok_3 xYok_f _))) rfl rfl (Nat.le_of_ble_eq_true rfl) (xRok (d' := d - 1) (by omega) (by decide)) ⟨Nat.le_refl _, Nat.le_refl _⟩ d_X_kinds_170 rfl ?_
    refine X_iload_n d_X_kinds_173 rfl rfl ?_
    refine X_iload d_X_kinds_174 rfl ?_
    refine X_bipush (v := 10) d_X_kinds_176 rfl ?_
    refine X_idiv d_X_kinds_178 (by decide) ?_
    refine X_callVv (rest := []) (k_Head_spin l G nn (xup xYf 3 (some sHead)) (xup I 3 (xup (hStd (I (17 + 2 * i))) 3 (nI t))) (by omega) 3 (show (xup xYf 3 (some sHead)) 3 = some sHead from rfl) (27 + 4 * ln) (S ln) (xTx_up (xTx_Y (xYok_3 xYok_f _) (show ln < 6 by omega) (hTs ln hl)) (show (xup xYf 3 (some sHead)) 3 = some sHead from rfl)) n (sp / 10) hn (xup (hStd (I (17 + 2 * i))) 3 (nI t)) (xup_s _ _ _)) lk_Head_spin ml_X_175 (xm_obj (show (xup xYf 3 (some sHead)) 3 = some sHead from rfl)) rfl rfl (Nat.le_of_ble_eq_true rfl) (xRok (d' := d - 1) (by omega) (by decide)) ⟨Nat.le_refl _, Nat.le_refl _⟩ d_X_kinds_179 rfl ?_
    rw [xup_up]
    refine X_aload_n d_X_kinds_182 rfl rfl ?_
    refine X_aload_n d_X_kinds_183 rfl rfl ?_
    refine X_iload_n d_X_kinds_184 rfl rfl ?_
    refine X_callV (v := .ref (xg G (51 + 2 * q))) (rest := [.ref (xg G 0)]) (c_X_sheetAt l G nn (xup xYf 3 (some sHead)) (xup I 3 (hSpin (S ln) n (sp / 10) (xup (hStd (I (17 + 2 * i))) 3 (nI t)))) (by omega) (xYok_3 xYok_f _) q (by omega)) lk_X_sheetAt ml_X_256 (xm_obj (y0 (xYok_3 xYok_f _))) rfl rfl (Nat.le_of_ble_eq_true rfl) (xRok (d' := d - 1) (by omega) (by decide)) ⟨Nat.le_refl _, Nat.le_refl _⟩ d_X_kinds_185 rfl ?_
    refine X_aload_n d_X_kinds_188 rfl rfl ?_
    refine X_callV (v := .ref (xg G (27 + 4 * ln))) (rest := [.ref (xg G (51 + 2 * q)), .ref (xg G 0)]) (c_X_law l G nn (xup xYf 3 (some sHead)) (xup I 3 (hSpin (S ln) n (sp / 10) (xup (hStd (I (17 + 2 * i))) 3 (nI t)))) (by omega) (xYok_3 xYok_f _) ln (by omega) ((congrFun (xup_n _ _ (by decide)) _).trans (h12))) lk_X_law ml_X_120 (xm_obj (y0 (xYok_3 xYok_f _))) rfl rfl (Nat.le_of_ble_eq_true rfl) (xRok (d' := d - 1) (by omega) (by decide)) ⟨Nat.le_refl _, Nat.le_refl _⟩ d_X_kinds_189 rfl ?_
    refine X_iload d_X_kinds_192 rfl ?_
    refine X_bipush (v := 10) d_X_kinds_194 rfl ?_
    refine X_irem d_X_kinds_196 (by decide) ?_
    refine X_callV (v := .int ((sFO (S ln) (sp - sp / 10 * 10) (I (51 + 2 * q + 1)) (sz q) 0 (hSpin (S ln) n (sp / 10) (xup (hStd (I (17 + 2 * i))) 3 (nI t)))).1)) (rest := []) (k_X_firstOtherwise l G nn (xup xYf 3 (some sHead)) (xup I 3 (hSpin (S ln) n (sp / 10) (xup (hStd (I (17 + 2 * i))) 3 (nI t)))) (by omega) (xYok_3 xYok_f _) (show (xup xYf 3 (some sHead)) 3 = some sHead from rfl) q (27 + 4 * ln) (by omega) (sz q) ((congrFun (xup_n _ _ (by omega)) _).trans ((hsz q (by omega)).1)) (hsz q (by omega)).2 (S ln) (xTx_up (xTx_Y (xYok_3 xYok_f _) (show ln < 6 by omega) (hTs ln hl)) (show (xup xYf 3 (some sHead)) 3 = some sHead from rfl)) (sp - sp / 10 * 10) (hSpin (S ln) n (sp / 10) (xup (hStd (I (17 + 2 * i))) 3 (nI t))) (I (51 + 2 * q + 1)) (xup_s _ _ _) (xup_n _ _ (by omega))) lk_X_firstOtherwise ml_X_260 (xm_obj (y0 (xYok_3 xYok_f _))) rfl rfl (Nat.le_of_ble_eq_true rfl) (xRok (d' := d - 1) (by omega) (by decide)) ⟨Nat.le_refl _, Nat.le_refl _⟩ d_X_kinds_197 rfl ?_
    rw [xup_up]
    refine X_if_ge (tgt := 212) d_X_kinds_200 (by decide) (fun c_5 => ?_) (fun c_5 => ?_)
    ·
      refine X_iinc d_X_kinds_212 rfl (v := (nI t) + 1) rfl (by decide) [1, 2, 3, 4, 5, 6, 7, 8, 0] (L' := [(0, .ref (xg G 0)), (1, .int (nI q)), (2, .int (nI i)), (3, .int n), (4, .int sp), (5, .int 2), (7, .int 10), (8, .int b), (9, .int ((nI t) + 1))]) rfl ?_
      refine X_goto (tgt := 75) d_X_kinds_215 (by decide) ?_
      simp only [nI_1]
      exact ih (t + 1) _ _ (hOK_FO _ _ _ _ _ (hOK_spin _ _ _ (hOK_up (hOK_sd (hR _ (by omega))) (by decide) _))).2 (by omega) (by rw [hr]; simp [sBits, tUnk, kVar, c_5, Int32.not_lt.mpr c_5])
    ·
      refine X_iload d_X_kinds_203 rfl ?_
      refine X_iconst (v := 1) d_X_kinds_205 rfl ?_
      refine X_iload d_X_kinds_206 rfl ?_
      refine X_ishl d_X_kinds_208 ?_
      refine X_ior d_X_kinds_209 ?_
      refine X_istore d_X_kinds_210 (by decide) [1, 2, 3, 4, 5, 6, 7, 0, 8] (L' := [(0, .ref (xg G 0)), (1, .int (nI q)), (2, .int (nI i)), (3, .int n), (4, .int sp), (5, .int 2), (7, .int 10), (8, .int (b ||| (1 <<< ((nI t) &&& 31)))), (9, .int (nI t))]) rfl ?_
      refine X_iinc d_X_kinds_212 rfl (v := (nI t) + 1) rfl (by decide) [1, 2, 3, 4, 5, 6, 7, 8, 0] (L' := [(0, .ref (xg G 0)), (1, .int (nI q)), (2, .int (nI i)), (3, .int n), (4, .int sp), (5, .int 2), (7, .int 10), (8, .int (b ||| (1 <<< ((nI t) &&& 31)))), (9, .int ((nI t) + 1))]) rfl ?_
      refine X_goto (tgt := 75) d_X_kinds_215 (by decide) ?_
      simp only [nI_1]
      exact ih (t + 1) _ _ (hOK_FO _ _ _ _ _ (hOK_spin _ _ _ (hOK_up (hOK_sd (hR _ (by omega))) (by decide) _))).2 (by omega) (by rw [hr]; simp [sBits, tUnk, kVar, c_5, Int32.not_le.mp c_5])
theorem c_X_kinds (l : Launch) (G : xG) {d : Nat} (nn : Nat) (I : xI) (hd : 11 ≤ d) (hc tc ln : Nat) (S : Nat → xSay) (hK : cOK I hc tc ln S) (sz : Nat → Nat) (hsz : sOK I sz) (s h n sp sort : Int32) : XM l G d y_X_kinds b_X_kinds 10 (some .int) 0 0 xK0 [.ref (xg G 0), .int s, .int h, .int n, .int sp, .int sort] nn (xm G xYf I) (some (.int (aKinds hc (S ln) (fun i => I (17 + 2 * i)) (fun q => I (51 + 2 * q) 1) sz (fun q => I (51 + 2 * q + 1)) s h n sp sort))) nn (xm G xYf (I)) := by
  obtain ⟨⟨h10, h5⟩, ⟨h11, h6⟩, ⟨h12, hl⟩, hTs, hR⟩ := id hK
  refine XM.of (by decide) (Nat.le_of_ble_eq_true rfl) (L := [(0, .ref (xg G 0)), (1, .int s), (2, .int h), (3, .int n), (4, .int sp), (5, .int sort)]) rfl ?_
  refine X_aload_n d_X_kinds_0 rfl rfl ?_
  refine X_iload_n d_X_kinds_1 rfl rfl ?_
  refine X_iload_n d_X_kinds_2 rfl rfl ?_
  refine X_callV (v := .int (rTold hc (fun q => I (51 + 2 * q) 1) s h)) (rest := []) (c_X_refusalOfTold l G nn I (by omega) hc tc ln S hK s h) lk_X_refusalOfTold ml_X_253 (xm_obj (y0 xYok_f)) rfl rfl (Nat.le_of_ble_eq_true rfl) (xRok (d' := d - 1) (by omega) (by decide)) ⟨Nat.le_refl _, Nat.le_refl _⟩ d_X_kinds_3 rfl ?_
  refine X_istore d_X_kinds_6 (by decide) [1, 2, 3, 4, 5, 6, 0] (L' := [(0, .ref (xg G 0)), (1, .int s), (2, .int h), (3, .int n), (4, .int sp), (5, .int sort), (6, .int (rTold hc (fun q => I (51 + 2 * q) 1) s h))]) rfl ?_
  refine X_iload d_X_kinds_8 rfl ?_
  refine X_if_eq (tgt := 16) d_X_kinds_10 (by decide) (fun c_1 => ?_) (fun c_1 => ?_)
  ·
    obtain ⟨q, i, hq, hi, rfl, rfl, hsq⟩ := rTold_ok h5 c_1
    refine X_knowH (a := 3) rfl (fun f3 hf3 => ?_)
    refine X_iload_n d_X_kinds_16 rfl rfl ?_
    refine X_callS (v := .int (xb (xin n (-40) 40))) (rest := []) (c_X_isTurns l G nn _ (by omega) n) lk_X_isTurns ml_X_169 rfl (Nat.le_of_ble_eq_true rfl) (xRok (d' := d - 1) (by omega) (by decide)) ⟨Nat.le_refl _, Nat.le_refl _⟩ d_X_kinds_17 rfl ?_
    refine X_ifb_eq (tgt := 41) d_X_kinds_20 (by decide) (fun c_2 => ?_) (fun c_2 => ?_)
    ·
      refine X_bipush (v := -7) d_X_kinds_41 rfl ?_
      exact X_iret rfl (congrArg (fun q => some (Value.int q)) (by first | (simp [aKinds, c_1, nI_cl (show q < 2 ^ 31 by omega), nI_cl (show i < 2 ^ 31 by omega), c_2, xl_1_0, xl_1_1, xl_2_0, xl_2_1, xl_2_2, xl_3_0, xl_3_1, xl_3_2, xl_3_3]; done) | (exfalso; simp_all; done) | (clear hTs hR hK; simp_all [aKinds, nI_cl (show q < 2 ^ 31 by omega), nI_cl (show i < 2 ^ 31 by omega)]; done))) (xle_3 (fun k hk => by simp only [xup_n _ _ hk])) d_X_kinds_43
    ·
      refine X_iload d_X_kinds_23 rfl ?_
      refine X_callS (v := .int (xb (xsp sp))) (rest := []) (c_X_isSpeedPace l G nn _ (by omega) sp) lk_X_isSpeedPace ml_X_241 rfl (Nat.le_of_ble_eq_true rfl) (xRok (d' := d - 1) (by omega) (by decide)) ⟨Nat.le_refl _, Nat.le_refl _⟩ d_X_kinds_25 rfl ?_
      refine X_ifb_eq (tgt := 41) d_X_kinds_28 (by decide) (fun c_3 => ?_) (fun c_3 => ?_)
      ·
        refine X_bipush (v := -7) d_X_kinds_41 rfl ?_
        exact X_iret rfl (congrArg (fun q => some (Value.int q)) (by first | (simp [aKinds, c_1, nI_cl (show q < 2 ^ 31 by omega), nI_cl (show i < 2 ^ 31 by omega), c_2, c_3, xl_1_0, xl_1_1, xl_2_0, xl_2_1, xl_2_2, xl_3_0, xl_3_1, xl_3_2, xl_3_3]; done) | (exfalso; simp_all; done) | (clear hTs hR hK; simp_all [aKinds, nI_cl (show q < 2 ^ 31 by omega), nI_cl (show i < 2 ^ 31 by omega)]; done))) (xle_3 (fun k hk => by simp only [xup_n _ _ hk])) d_X_kinds_43
      ·
        refine X_iload d_X_kinds_31 rfl ?_
        refine X_iconst (v := 0) d_X_kinds_33 rfl ?_
        refine X_iconst (v := 2) d_X_kinds_34 rfl ?_
        refine X_callS (v := .int (xb (xin sort 0 2))) (rest := []) (c_X_within l G nn _ (by omega) sort 0 2) lk_X_within ml_X_105 rfl (Nat.le_of_ble_eq_true rfl) (xRok (d' := d - 1) (by omega) (by decide)) ⟨Nat.le_refl _, Nat.le_refl _⟩ d_X_kinds_35 rfl ?_
        refine X_ifb_ne (tgt := 44) d_X_kinds_38 (by decide) (fun c_4 => ?_) (fun c_4 => ?_)
        ·
          refine X_iload d_X_kinds_44 rfl ?_
          refine X_if_ne (tgt := 54) d_X_kinds_46 (by decide) (fun c_5 => ?_) (fun c_5 => ?_)
          ·
            refine X_iload d_X_kinds_54 rfl ?_
            refine X_iconst (v := 1) d_X_kinds_56 rfl ?_
            refine X_icmp_ne (tgt := 65) d_X_kinds_57 (by decide) (fun c_6 => ?_) (fun c_6 => ?_)
            ·
              refine X_bipush (v := 10) d_X_kinds_65 rfl ?_
              refine X_istore d_X_kinds_67 (by decide) [1, 2, 3, 4, 5, 6, 7, 0] (L' := [(0, .ref (xg G 0)), (1, .int (nI q)), (2, .int (nI i)), (3, .int n), (4, .int sp), (5, .int sort), (6, .int (rTold hc (fun q => I (51 + 2 * q) 1) (nI q) (nI i))), (7, .int 10)]) rfl ?_
              refine X_iconst (v := 0) d_X_kinds_69 rfl ?_
              refine X_istore d_X_kinds_70 (by decide) [1, 2, 3, 4, 5, 6, 7, 8, 0] (L' := [(0, .ref (xg G 0)), (1, .int (nI q)), (2, .int (nI i)), (3, .int n), (4, .int sp), (5, .int sort), (6, .int (rTold hc (fun q => I (51 + 2 * q) 1) (nI q) (nI i))), (7, .int 10), (8, .int 0)]) rfl ?_
              refine X_iconst (v := 0) d_X_kinds_72 rfl ?_
              refine X_istore d_X_kinds_73 (by decide) [1, 2, 3, 4, 5, 6, 7, 8, 9, 0] (L' := [(0, .ref (xg G 0)), (1, .int (nI q)), (2, .int (nI i)), (3, .int n), (4, .int sp), (5, .int sort), (6, .int (rTold hc (fun q => I (51 + 2 * q) 1) (nI q) (nI i))), (7, .int 10), (8, .int 0), (9, .int 0)]) rfl ?_
              have hs0 : sort = 2 := by rcases x012 c_4 with z | z | z <;> first | exact z | exact absurd z c_5 | exact absurd z c_6
              subst hs0
              refine X_sub [0, 1, 2, 3, 4, 5, 7, 8, 9] (L' := [(0, .ref (xg G 0)), (1, .int (nI q)), (2, .int (nI i)), (3, .int n), (4, .int sp), (5, .int 2), (7, .int 10), (8, .int 0), (9, .int 0)]) rfl ?_
              exact w_X_kinds_2 l G nn I (by omega) hc tc ln S hK sz hsz q i n sp hq hi (xin_abs c_2) _ 10 0 _ _ hf3 (by omega) (by first | (simp [aKinds, c_1, nI_cl (show q < 2 ^ 31 by omega), nI_cl (show i < 2 ^ 31 by omega), c_2, c_3, c_4, c_5, c_6, xl_1_0, xl_1_1, xl_2_0, xl_2_1, xl_2_2]; done) | (clear hTs hR hK; simp_all [aKinds, nI_cl (show q < 2 ^ 31 by omega), nI_cl (show i < 2 ^ 31 by omega)]; done))
            ·
              refine X_bipush (v := 10) d_X_kinds_60 rfl ?_
              refine X_goto (tgt := 67) d_X_kinds_62 (by decide) ?_
              refine X_istore d_X_kinds_67 (by decide) [1, 2, 3, 4, 5, 6, 7, 0] (L' := [(0, .ref (xg G 0)), (1, .int (nI q)), (2, .int (nI i)), (3, .int n), (4, .int sp), (5, .int sort), (6, .int (rTold hc (fun q => I (51 + 2 * q) 1) (nI q) (nI i))), (7, .int 10)]) rfl ?_
              refine X_iconst (v := 0) d_X_kinds_69 rfl ?_
              refine X_istore d_X_kinds_70 (by decide) [1, 2, 3, 4, 5, 6, 7, 8, 0] (L' := [(0, .ref (xg G 0)), (1, .int (nI q)), (2, .int (nI i)), (3, .int n), (4, .int sp), (5, .int sort), (6, .int (rTold hc (fun q => I (51 + 2 * q) 1) (nI q) (nI i))), (7, .int 10), (8, .int 0)]) rfl ?_
              refine X_iconst (v := 0) d_X_kinds_72 rfl ?_
              refine X_istore d_X_kinds_73 (by decide) [1, 2, 3, 4, 5, 6, 7, 8, 9, 0] (L' := [(0, .ref (xg G 0)), (1, .int (nI q)), (2, .int (nI i)), (3, .int n), (4, .int sp), (5, .int sort), (6, .int (rTold hc (fun q => I (51 + 2 * q) 1) (nI q) (nI i))), (7, .int 10), (8, .int 0), (9, .int 0)]) rfl ?_
              have hs0 : sort = 1 := c_6
              subst hs0
              refine X_sub [0, 1, 2, 3, 4, 5, 7, 8, 9] (L' := [(0, .ref (xg G 0)), (1, .int (nI q)), (2, .int (nI i)), (3, .int n), (4, .int sp), (5, .int 1), (7, .int 10), (8, .int 0), (9, .int 0)]) rfl ?_
              exact w_X_kinds_1 l G nn I (by omega) hc tc ln S hK sz hsz q i n sp hq hi (xin_abs c_2) _ 10 0 _ _ hf3 (by omega) (by first | (simp [aKinds, c_1, nI_cl (show q < 2 ^ 31 by omega), nI_cl (show i < 2 ^ 31 by omega), c_2, c_3, c_4, c_5, c_6, xl_1_0, xl_1_1, xl_2_0, xl_2_1, xl_2_2]; done) | (clear hTs hR hK; simp_all [aKinds, nI_cl (show q < 2 ^ 31 by omega), nI_cl (show i < 2 ^ 31 by omega)]; done))
          ·
            refine X_bipush (v := 6) d_X_kinds_49 rfl ?_
            refine X_goto (tgt := 67) d_X_kinds_51 (by decide) ?_
            refine X_istore d_X_kinds_67 (by decide) [1, 2, 3, 4, 5, 6, 7, 0] (L' := [(0, .ref (xg G 0)), (1, .int (nI q)), (2, .int (nI i)), (3, .int n), (4, .int sp), (5, .int sort), (6, .int (rTold hc (fun q => I (51 + 2 * q) 1) (nI q) (nI i))), (7, .int 6)]) rfl ?_
            refine X_iconst (v := 0) d_X_kinds_69 rfl ?_
            refine X_istore d_X_kinds_70 (by decide) [1, 2, 3, 4, 5, 6, 7, 8, 0] (L' := [(0, .ref (xg G 0)), (1, .int (nI q)), (2, .int (nI i)), (3, .int n), (4, .int sp), (5, .int sort), (6, .int (rTold hc (fun q => I (51 + 2 * q) 1) (nI q) (nI i))), (7, .int 6), (8, .int 0)]) rfl ?_
            refine X_iconst (v := 0) d_X_kinds_72 rfl ?_
            refine X_istore d_X_kinds_73 (by decide) [1, 2, 3, 4, 5, 6, 7, 8, 9, 0] (L' := [(0, .ref (xg G 0)), (1, .int (nI q)), (2, .int (nI i)), (3, .int n), (4, .int sp), (5, .int sort), (6, .int (rTold hc (fun q => I (51 + 2 * q) 1) (nI q) (nI i))), (7, .int 6), (8, .int 0), (9, .int 0)]) rfl ?_
            have hs0 : sort = 0 := c_5
            subst hs0
            refine X_sub [0, 1, 2, 3, 4, 5, 7, 8, 9] (L' := [(0, .ref (xg G 0)), (1, .int (nI q)), (2, .int (nI i)), (3, .int n), (4, .int sp), (5, .int 0), (7, .int 6), (8, .int 0), (9, .int 0)]) rfl ?_
            exact w_X_kinds_0 l G nn I (by omega) hc tc ln S hK sz hsz q i n sp hq hi (xin_abs c_2) _ 6 0 _ _ hf3 (by omega) (by first | (simp [aKinds, c_1, nI_cl (show q < 2 ^ 31 by omega), nI_cl (show i < 2 ^ 31 by omega), c_2, c_3, c_4, c_5, xl_1_0, xl_1_1, xl_2_0, xl_2_1, xl_2_2]; done) | (clear hTs hR hK; simp_all [aKinds, nI_cl (show q < 2 ^ 31 by omega), nI_cl (show i < 2 ^ 31 by omega)]; done))
        ·
          refine X_bipush (v := -7) d_X_kinds_41 rfl ?_
          exact X_iret rfl (congrArg (fun q => some (Value.int q)) (by first | (simp [aKinds, c_1, nI_cl (show q < 2 ^ 31 by omega), nI_cl (show i < 2 ^ 31 by omega), c_2, c_3, c_4, xl_1_0, xl_1_1, xl_2_0, xl_2_1, xl_2_2, xl_3_0, xl_3_1, xl_3_2, xl_3_3]; done) | (exfalso; simp_all; done) | (clear hTs hR hK; simp_all [aKinds, nI_cl (show q < 2 ^ 31 by omega), nI_cl (show i < 2 ^ 31 by omega)]; done))) (xle_3 (fun k hk => by simp only [xup_n _ _ hk])) d_X_kinds_43
  ·
    refine X_iload d_X_kinds_13 rfl ?_
    exact X_iret rfl (congrArg (fun q => some (Value.int q)) (by first | (simp [aKinds, c_1, xl_1_0, xl_1_1, xl_2_0, xl_2_1, xl_2_2, xl_3_0, xl_3_1, xl_3_2, xl_3_3]; done) | (exfalso; simp_all; done) | (clear hTs hR hK; simp_all [aKinds]; done))) (xle_rf _) d_X_kinds_15
def sPace (L : xSay) (far : Int32) (b : Nat → Int32) : Nat → Int32 → Int32 → Int32 × Int32
  | 0, best, least => (best, least)
  | k + 1, best, least => if hGo L (nI (k + 1)) 1 (xru far (nI (k + 1))).toNatClampNeg b 7 = 0 ∧ (best < 0 ∨ xabs (hGo L (nI (k + 1)) 1 (xru far (nI (k + 1))).toNatClampNeg b 6) < least) then sPace L far b k (nI (k + 1)) (xabs (hGo L (nI (k + 1)) 1 (xru far (nI (k + 1))).toNatClampNeg b 6)) else sPace L far b k best least
theorem xru_nn {far : Int32} {q : Nat} (h : xin far 1 60 = true) (h0 : 1 ≤ q) (h9 : q ≤ 9) : ¬ xru far (nI q) < 0 := by
  rw [xin_iff] at h
  obtain ⟨a, ha, rfl⟩ := nI_of (x := far) (by grind)
  have h60 : a ≤ 60 := (nI_leI ha (by decide)).mp h.2
  have h1 : 1 ≤ a := (nI_leI (a := 1) (by decide) ha).mp h.1
  unfold xru
  have hq : ¬ nI q < 1 := show ¬ nI q < nI 1 from nI_nlt h0 (by omega)
  rw [if_neg hq, nI_add, show nI (a + q) - 1 = nI (a + q - 1) from pk_sub (a := a + q) (b := 1) (by omega), pk_div (by omega) (by omega) (by omega)]
  exact nI_pos (Nat.lt_of_le_of_lt (Nat.div_le_self _ _) (by omega))
def aPace (hc : Nat) (L : xSay) (R : Nat → Nat → Int32) (h n sp far what : Int32) : Int32 := if xin h 0 (nI hc - 1) = true then (if xin n (-40) 40 = true ∧ xin sp 1 9 = true ∧ xin far 1 60 = true ∧ xin what 0 1 = true then rUndo what (sPace L far (hSpin L n sp (hStd (R h.toNatClampNeg))) 9 (-1) (-1)) else -100007) else -100005
def Q_X_pace (l : Launch) (G : xG) (d nn : Nat) (I : xI) (ln : Nat) (S : Nat → xSay) (far : Int32) (what : Int32) (b : Nat → Int32) (r : Int32) (q : Nat) (best : Int32) (least : Int32) (a : Nat → Int32) : Prop := XW l G (xR d 0 0) y_X_pace b_X_pace 10 (some .int) xK0 (xZ G nn (xm G xYf (I)) (some (.int r)) 0 0) nn (xm G (xup (xup xYf 3 (some sHead)) 4 (some sHead)) (xup (xup I 3 a) 4 b)) 0 0 85 [(0, .ref (xg G 0)), (4, .int far), (5, .int what), (6, .int best), (7, .int least), (8, .int (nI q))] []
theorem w_X_pace (l : Launch) (G : xG) {d : Nat} (nn : Nat) (I : xI) (hd : 10 ≤ d) (hc tc ln : Nat) (S : Nat → xSay) (hK : cOK I hc tc ln S) (far : Int32) (what : Int32) (b : Nat → Int32) (hfar : xin far 1 60 = true) (hb : hOK b) (r : Int32) : ∀ (k : Nat) (best : Int32) (least : Int32) (a : Nat → Int32) (hy_a : hZ a), k ≤ 9 → r = rUndo what (sPace (S ln) far b k best least) → Q_X_pace l G d nn I ln S far what b r k best least a := by
  obtain ⟨⟨h10, h5⟩, ⟨h11, h6⟩, ⟨h12, hl⟩, hTs, hR⟩ := id hK
  intro k
  induction k with
  | zero =>
    intro best least a hy_a hk hr
    unfold Q_X_pace
    refine X_iload d_X_pace_85 rfl ?_
    refine X_iconst (v := 1) d_X_pace_87 rfl ?_
    refine X_icmp_lt (tgt := 172) d_X_pace_88 (by decide) (fun _ => ?_) (fun c_1 => absurd c_1 (not_not_intro (by decide)))
    refine X_iload d_X_pace_172 rfl ?_
    refine X_if_ne (tgt := 182) d_X_pace_174 (by decide) (fun c_2 => ?_) (fun c_2 => ?_)
    ·
      refine X_iload d_X_pace_182 rfl ?_
      exact X_iret rfl (congrArg (fun q => some (Value.int q)) (by rw [hr]; first | (simp [sPace, rUndo, c_2]; done) | simp_all [sPace, rUndo])) (xle_34 (fun k hk hk4 => by simp only [xup_n _ _ hk, xup_n _ _ hk4])) d_X_pace_184
    ·
      refine X_iload d_X_pace_177 rfl ?_
      refine X_goto (tgt := 184) d_X_pace_179 (by decide) ?_
      exact X_iret rfl (congrArg (fun q => some (Value.int q)) (by rw [hr]; first | (simp [sPace, rUndo, c_2]; done) | simp_all [sPace, rUndo])) (xle_34 (fun k hk hk4 => by simp only [xup_n _ _ hk, xup_n _ _ hk4])) d_X_pace_184
  | succ k ih =>
    intro best least a hy_a hk hr
    unfold Q_X_pace
    refine X_iload d_X_pace_85 rfl ?_
    refine X_iconst (v := 1) d_X_pace_87 rfl ?_
    refine X_icmp_lt (tgt := 172) d_X_pace_88 (by decide) (fun c_1 => absurd c_1 (show ¬ nI (k + 1) < nI 1 from nI_nlt (by omega) (by omega))) (fun _ => ?_)
    refine X_aload_n d_X_pace_91 rfl rfl ?_
    refine X_getR (r := 3) fg_X_19 (y0 (xYok_4 (xYok_3 xYok_f _) _)) rfl d_X_pace_92 ?_
    refine X_aload_n d_X_pace_95 rfl rfl ?_
    refine X_getR (r := 4) fg_X_23 (y0 (xYok_4 (xYok_3 xYok_f _) _)) rfl d_X_pace_96 ?_
    refine X_callVv (rest := []) (k_Head_become l G nn (xup (xup xYf 3 (some sHead)) 4 (some sHead)) (xup (xup I 3 a) 4 b) (by omega) 3 (show (xup (xup xYf 3 (some sHead)) 4 (some sHead)) 3 = some sHead from rfl) 4 (show (xup (xup xYf 3 (some sHead)) 4 (some sHead)) 4 = some sHead from rfl) (by decide) a b ((xup_n _ _ (by decide)).trans (xup_s _ _ _)) (xup_s _ _ _) hb hy_a) lk_Head_become ml_X_235 (xm_obj (show (xup (xup xYf 3 (some sHead)) 4 (some sHead)) 3 = some sHead from rfl)) rfl rfl (Nat.le_of_ble_eq_true rfl) (xRok (d' := d - 1) (by omega) (by decide)) ⟨Nat.le_refl _, Nat.le_refl _⟩ d_X_pace_99 rfl ?_
    rw [xup_aba _ _ _ _ (show (4 : Nat) ≠ 3 from (by decide))]
    refine X_aload_n d_X_pace_102 rfl rfl ?_
    refine X_getR (r := 3) fg_X_19 (y0 (xYok_4 (xYok_3 xYok_f _) _)) rfl d_X_pace_103 ?_
    refine X_aload_n d_X_pace_106 rfl rfl ?_
    refine X_callV (v := .ref (xg G (27 + 4 * ln))) (rest := [.ref (xg G 3)]) (c_X_law l G nn (xup (xup xYf 3 (some sHead)) 4 (some sHead)) (xup (xup I 3 b) 4 b) (by omega) (xYok_4 (xYok_3 xYok_f _) _) ln (by omega) ((congrFun (xup_n _ _ (by decide)) _).trans ((congrFun (xup_n _ _ (by decide)) _).trans (h12)))) lk_X_law ml_X_120 (xm_obj (y0 (xYok_4 (xYok_3 xYok_f _) _))) rfl rfl (Nat.le_of_ble_eq_true rfl) (xRok (d' := d - 1) (by omega) (by decide)) ⟨Nat.le_refl _, Nat.le_refl _⟩ d_X_pace_107 rfl ?_
    refine X_iload d_X_pace_110 rfl ?_
    refine X_iload d_X_pace_112 rfl ?_
    refine X_callS (v := .int (xru far (nI (k + 1)))) (rest := [.ref (xg G (27 + 4 * ln)), .ref (xg G 3)]) (c_X_roundedUp l G nn _ (by omega) far (nI (k + 1))) lk_X_roundedUp ml_X_238 rfl (Nat.le_of_ble_eq_true rfl) (xRok (d' := d - 1) (by omega) (by decide)) ⟨Nat.le_refl _, Nat.le_refl _⟩ d_X_pace_114 rfl ?_
    refine X_iload d_X_pace_117 rfl ?_
    refine X_iconst (v := 1) d_X_pace_119 rfl ?_
    refine X_callV (v := .int (hFall (S ln) (nI (k + 1)) 1 ((xru far (nI (k + 1)))).toNatClampNeg 0 b)) (rest := []) (k_Head_goOn l G nn (xup (xup xYf 3 (some sHead)) 4 (some sHead)) (xup (xup I 3 b) 4 b) (by omega) 3 (show (xup (xup xYf 3 (some sHead)) 4 (some sHead)) 3 = some sHead from rfl) (27 + 4 * ln) (S ln) (xTx_up (xTx_up (xTx_Y (xYok_4 (xYok_3 xYok_f _) _) (show ln < 6 by omega) (hTs ln hl)) (show (xup (xup xYf 3 (some sHead)) 4 (some sHead)) 3 = some sHead from rfl)) (show (xup (xup xYf 3 (some sHead)) 4 (some sHead)) 4 = some sHead from rfl)) (xru far (nI (k + 1))) (nI (k + 1)) 1 (xru_nn hfar (by omega) (by omega)) b ((xup_n _ _ (by decide)).trans (xup_s _ _ _)) hb.1) lk_Head_goOn ml_X_191 (xm_obj (show (xup (xup xYf 3 (some sHead)) 4 (some sHead)) 3 = some sHead from rfl)) rfl rfl (Nat.le_of_ble_eq_true rfl) (xRok (d' := d - 1) (by omega) (by decide)) ⟨Nat.le_refl _, Nat.le_refl _⟩ d_X_pace_120 rfl ?_
    rw [xup_aba _ _ _ _ (show (4 : Nat) ≠ 3 from (by decide))]
    refine X_pop d_X_pace_123 rfl ?_
    refine X_aload_n d_X_pace_124 rfl rfl ?_
    refine X_getR (r := 3) fg_X_19 (y0 (xYok_4 (xYok_3 xYok_f _) _)) rfl d_X_pace_125 ?_
    refine X_getI (v := (hGo (S ln) (nI (k + 1)) 1 ((xru far (nI (k + 1)))).toNatClampNeg b) 6) fg_X_159 (show (xup (xup xYf 3 (some sHead)) 4 (some sHead)) 3 = some sHead from rfl) rfl ((congrFun (xup_n _ _ (by decide)) _).trans (congrFun (xup_s _ _ _) _)) d_X_pace_128 ?_
    refine X_mabsx ml_X_216 mt_abs mi_math mc_abs (xRm (by omega) (Nat.le_of_ble_eq_true rfl)) ⟨Nat.zero_le _, Nat.zero_le _⟩ d_X_pace_131 ?_
    refine X_istore d_X_pace_134 (by decide) [1, 2, 3, 4, 5, 6, 0] (L' := [(0, .ref (xg G 0)), (4, .int far), (5, .int what), (6, .int best), (7, .int least), (8, .int (nI (k + 1))), (9, .int (xabs ((hGo (S ln) (nI (k + 1)) 1 ((xru far (nI (k + 1)))).toNatClampNeg b) 6)))]) rfl ?_
    refine X_aload_n d_X_pace_136 rfl rfl ?_
    refine X_getR (r := 3) fg_X_19 (y0 (xYok_4 (xYok_3 xYok_f _) _)) rfl d_X_pace_137 ?_
    refine X_getI (v := (hGo (S ln) (nI (k + 1)) 1 ((xru far (nI (k + 1)))).toNatClampNeg b) 7) fg_X_162 (show (xup (xup xYf 3 (some sHead)) 4 (some sHead)) 3 = some sHead from rfl) rfl ((congrFun (xup_n _ _ (by decide)) _).trans (congrFun (xup_s _ _ _) _)) d_X_pace_140 ?_
    refine X_if_ne (tgt := 166) d_X_pace_143 (by decide) (fun c_2 => ?_) (fun c_2 => ?_)
    ·
      refine X_iinc d_X_pace_166 rfl (v := (nI (k + 1)) + (-1)) rfl (by decide) [1, 2, 3, 4, 5, 0, 6] (L' := [(0, .ref (xg G 0)), (4, .int far), (5, .int what), (6, .int best), (7, .int least), (8, .int ((nI (k + 1)) + (-1))), (9, .int (xabs ((hGo (S ln) (nI (k + 1)) 1 ((xru far (nI (k + 1)))).toNatClampNeg b) 6)))]) rfl ?_
      refine X_goto (tgt := 85) d_X_pace_169 (by decide) ?_
      refine X_sub [0, 1, 2, 3, 4, 5] (L' := [(0, .ref (xg G 0)), (4, .int far), (5, .int what), (6, .int best), (7, .int least), (8, .int ((nI (k + 1)) + (-1)))]) rfl ?_
      simp only [pk_m1]
      exact ih _ _ _ (hOK_go _ _ _ _ hb).2 (by omega) (by rw [hr]; simp [sPace, rUndo, c_2])
    ·
      refine X_iload d_X_pace_146 rfl ?_
      refine X_if_lt (tgt := 158) d_X_pace_148 (by decide) (fun c_3 => ?_) (fun c_3 => ?_)
      ·
        refine X_iload d_X_pace_158 rfl ?_
        refine X_istore d_X_pace_160 (by decide) [1, 2, 3, 0, 4, 5, 6] (L' := [(0, .ref (xg G 0)), (4, .int far), (5, .int what), (6, .int (nI (k + 1))), (7, .int least), (8, .int (nI (k + 1))), (9, .int (xabs ((hGo (S ln) (nI (k + 1)) 1 ((xru far (nI (k + 1)))).toNatClampNeg b) 6)))]) rfl ?_
        refine X_iload d_X_pace_162 rfl ?_
        refine X_istore d_X_pace_164 (by decide) [1, 2, 3, 4, 0, 5, 6] (L' := [(0, .ref (xg G 0)), (4, .int far), (5, .int what), (6, .int (nI (k + 1))), (7, .int (xabs ((hGo (S ln) (nI (k + 1)) 1 ((xru far (nI (k + 1)))).toNatClampNeg b) 6))), (8, .int (nI (k + 1))), (9, .int (xabs ((hGo (S ln) (nI (k + 1)) 1 ((xru far (nI (k + 1)))).toNatClampNeg b) 6)))]) rfl ?_
        refine X_iinc d_X_pace_166 rfl (v := (nI (k + 1)) + (-1)) rfl (by decide) [1, 2, 3, 4, 5, 0, 6] (L' := [(0, .ref (xg G 0)), (4, .int far), (5, .int what), (6, .int (nI (k + 1))), (7, .int (xabs ((hGo (S ln) (nI (k + 1)) 1 ((xru far (nI (k + 1)))).toNatClampNeg b) 6))), (8, .int ((nI (k + 1)) + (-1))), (9, .int (xabs ((hGo (S ln) (nI (k + 1)) 1 ((xru far (nI (k + 1)))).toNatClampNeg b) 6)))]) rfl ?_
        refine X_goto (tgt := 85) d_X_pace_169 (by decide) ?_
        refine X_sub [0, 1, 2, 3, 4, 5] (L' := [(0, .ref (xg G 0)), (4, .int far), (5, .int what), (6, .int (nI (k + 1))), (7, .int (xabs ((hGo (S ln) (nI (k + 1)) 1 ((xru far (nI (k + 1)))).toNatClampNeg b) 6))), (8, .int ((nI (k + 1)) + (-1)))]) rfl ?_
        simp only [pk_m1]
        exact ih _ _ _ (hOK_go _ _ _ _ hb).2 (by omega) (by rw [hr]; simp [sPace, rUndo, c_2, c_3, Int32.not_le.mpr c_3])
      ·
        refine X_iload d_X_pace_151 rfl ?_
        refine X_iload d_X_pace_153 rfl ?_
        refine X_icmp_ge (tgt := 166) d_X_pace_155 (by decide) (fun c_4 => ?_) (fun c_4 => ?_)
        ·
          refine X_iinc d_X_pace_166 rfl (v := (nI (k + 1)) + (-1)) rfl (by decide) [1, 2, 3, 4, 5, 0, 6] (L' := [(0, .ref (xg G 0)), (4, .int far), (5, .int what), (6, .int best), (7, .int least), (8, .int ((nI (k + 1)) + (-1))), (9, .int (xabs ((hGo (S ln) (nI (k + 1)) 1 ((xru far (nI (k + 1)))).toNatClampNeg b) 6)))]) rfl ?_
          refine X_goto (tgt := 85) d_X_pace_169 (by decide) ?_
          refine X_sub [0, 1, 2, 3, 4, 5] (L' := [(0, .ref (xg G 0)), (4, .int far), (5, .int what), (6, .int best), (7, .int least), (8, .int ((nI (k + 1)) + (-1)))]) rfl ?_
          simp only [pk_m1]
          exact ih _ _ _ (hOK_go _ _ _ _ hb).2 (by omega) (by rw [hr]; simp [sPace, rUndo, c_2, c_3, Int32.not_lt.mp c_3, c_4, Int32.not_lt.mpr c_4])
        ·
          refine X_iload d_X_pace_158 rfl ?_
          refine X_istore d_X_pace_160 (by decide) [1, 2, 3, 0, 4, 5, 6] (L' := [(0, .ref (xg G 0)), (4, .int far), (5, .int what), (6, .int (nI (k + 1))), (7, .int least), (8, .int (nI (k + 1))), (9, .int (xabs ((hGo (S ln) (nI (k + 1)) 1 ((xru far (nI (k + 1)))).toNatClampNeg b) 6)))]) rfl ?_
          refine X_iload d_X_pace_162 rfl ?_
          refine X_istore d_X_pace_164 (by decide) [1, 2, 3, 4, 0, 5, 6] (L' := [(0, .ref (xg G 0)), (4, .int far), (5, .int what), (6, .int (nI (k + 1))), (7, .int (xabs ((hGo (S ln) (nI (k + 1)) 1 ((xru far (nI (k + 1)))).toNatClampNeg b) 6))), (8, .int (nI (k + 1))), (9, .int (xabs ((hGo (S ln) (nI (k + 1)) 1 ((xru far (nI (k + 1)))).toNatClampNeg b) 6)))]) rfl ?_
          refine X_iinc d_X_pace_166 rfl (v := (nI (k + 1)) + (-1)) rfl (by decide) [1, 2, 3, 4, 5, 0, 6] (L' := [(0, .ref (xg G 0)), (4, .int far), (5, .int what), (6, .int (nI (k + 1))), (7, .int (xabs ((hGo (S ln) (nI (k + 1)) 1 ((xru far (nI (k + 1)))).toNatClampNeg b) 6))), (8, .int ((nI (k + 1)) + (-1))), (9, .int (xabs ((hGo (S ln) (nI (k + 1)) 1 ((xru far (nI (k + 1)))).toNatClampNeg b) 6)))]) rfl ?_
          refine X_goto (tgt := 85) d_X_pace_169 (by decide) ?_
          refine X_sub [0, 1, 2, 3, 4, 5] (L' := [(0, .ref (xg G 0)), (4, .int far), (5, .int what), (6, .int (nI (k + 1))), (7, .int (xabs ((hGo (S ln) (nI (k + 1)) 1 ((xru far (nI (k + 1)))).toNatClampNeg b) 6))), (8, .int ((nI (k + 1)) + (-1)))]) rfl ?_
          simp only [pk_m1]
          exact ih _ _ _ (hOK_go _ _ _ _ hb).2 (by omega) (by rw [hr]; simp [sPace, rUndo, c_2, c_3, Int32.not_lt.mp c_3, c_4, Int32.not_le.mp c_4])
theorem c_X_pace (l : Launch) (G : xG) {d : Nat} (nn : Nat) (I : xI) (hd : 11 ≤ d) (hc tc ln : Nat) (S : Nat → xSay) (hK : cOK I hc tc ln S) (h n sp far what : Int32) : XM l G d y_X_pace b_X_pace 10 (some .int) 0 0 xK0 [.ref (xg G 0), .int h, .int n, .int sp, .int far, .int what] nn (xm G xYf I) (some (.int (aPace hc (S ln) (fun i => I (17 + 2 * i)) h n sp far what))) nn (xm G xYf (I)) := by
  obtain ⟨⟨h10, h5⟩, ⟨h11, h6⟩, ⟨h12, hl⟩, hTs, hR⟩ := id hK
  refine XM.of (by decide) (Nat.le_of_ble_eq_true rfl) (L := [(0, .ref (xg G 0)), (1, .int h), (2, .int n), (3, .int sp), (4, .int far), (5, .int what)]) rfl ?_
  refine X_aload_n d_X_pace_0 rfl rfl ?_
  refine X_iload_n d_X_pace_1 rfl rfl ?_
  refine X_callV (v := .int (xb (xin h 0 (nI hc - 1)))) (rest := []) (c_X_isHead l G nn xYf I (by omega) xYok_f h (nI hc) (h10)) lk_X_isHead ml_X_113 (xm_obj (y0 xYok_f)) rfl rfl (Nat.le_of_ble_eq_true rfl) (xRok (d' := d - 1) (by omega) (by decide)) ⟨Nat.le_refl _, Nat.le_refl _⟩ d_X_pace_2 rfl ?_
  refine X_ifb_ne (tgt := 11) d_X_pace_5 (by decide) (fun c_1 => ?_) (fun c_1 => ?_)
  ·
    obtain ⟨i, hi, rfl⟩ := cHead h5 c_1
    refine X_iload_n d_X_pace_11 rfl rfl ?_
    refine X_callS (v := .int (xb (xin n (-40) 40))) (rest := []) (c_X_isTurns l G nn _ (by omega) n) lk_X_isTurns ml_X_169 rfl (Nat.le_of_ble_eq_true rfl) (xRok (d' := d - 1) (by omega) (by decide)) ⟨Nat.le_refl _, Nat.le_refl _⟩ d_X_pace_12 rfl ?_
    refine X_ifb_eq (tgt := 46) d_X_pace_15 (by decide) (fun c_2 => ?_) (fun c_2 => ?_)
    ·
      refine X_ldc cs_X_149 d_X_pace_46 ?_
      exact X_iret rfl (congrArg (fun q => some (Value.int q)) (by first | (simp [aPace, c_1, nI_cl (show i < 2 ^ 31 by omega), c_2, xl_1_0, xl_1_1, xl_2_0, xl_2_1, xl_2_2, xl_3_0, xl_3_1, xl_3_2, xl_3_3]; done) | (exfalso; simp_all; done) | (clear hTs hR hK; simp_all [aPace, nI_cl (show i < 2 ^ 31 by omega)]; done))) (xle_rf _) d_X_pace_48
    ·
      refine X_iload_n d_X_pace_18 rfl rfl ?_
      refine X_callS (v := .int (xb (xin sp 1 9))) (rest := []) (c_X_isPace l G nn _ (by omega) sp) lk_X_isPace ml_X_172 rfl (Nat.le_of_ble_eq_true rfl) (xRok (d' := d - 1) (by omega) (by decide)) ⟨Nat.le_refl _, Nat.le_refl _⟩ d_X_pace_19 rfl ?_
      refine X_ifb_eq (tgt := 46) d_X_pace_22 (by decide) (fun c_3 => ?_) (fun c_3 => ?_)
      ·
        refine X_ldc cs_X_149 d_X_pace_46 ?_
        exact X_iret rfl (congrArg (fun q => some (Value.int q)) (by first | (simp [aPace, c_1, nI_cl (show i < 2 ^ 31 by omega), c_2, c_3, xl_1_0, xl_1_1, xl_2_0, xl_2_1, xl_2_2, xl_3_0, xl_3_1, xl_3_2, xl_3_3]; done) | (exfalso; simp_all; done) | (clear hTs hR hK; simp_all [aPace, nI_cl (show i < 2 ^ 31 by omega)]; done))) (xle_rf _) d_X_pace_48
      ·
        refine X_iload d_X_pace_25 rfl ?_
        refine X_iconst (v := 1) d_X_pace_27 rfl ?_
        refine X_bipush (v := 60) d_X_pace_28 rfl ?_
        refine X_callS (v := .int (xb (xin far 1 60))) (rest := []) (c_X_within l G nn _ (by omega) far 1 60) lk_X_within ml_X_105 rfl (Nat.le_of_ble_eq_true rfl) (xRok (d' := d - 1) (by omega) (by decide)) ⟨Nat.le_refl _, Nat.le_refl _⟩ d_X_pace_30 rfl ?_
        refine X_ifb_eq (tgt := 46) d_X_pace_33 (by decide) (fun c_4 => ?_) (fun c_4 => ?_)
        ·
          refine X_ldc cs_X_149 d_X_pace_46 ?_
          exact X_iret rfl (congrArg (fun q => some (Value.int q)) (by first | (simp [aPace, c_1, nI_cl (show i < 2 ^ 31 by omega), c_2, c_3, c_4, xl_1_0, xl_1_1, xl_2_0, xl_2_1, xl_2_2, xl_3_0, xl_3_1, xl_3_2, xl_3_3]; done) | (exfalso; simp_all; done) | (clear hTs hR hK; simp_all [aPace, nI_cl (show i < 2 ^ 31 by omega)]; done))) (xle_rf _) d_X_pace_48
        ·
          refine X_iload d_X_pace_36 rfl ?_
          refine X_iconst (v := 0) d_X_pace_38 rfl ?_
          refine X_iconst (v := 1) d_X_pace_39 rfl ?_
          refine X_callS (v := .int (xb (xin what 0 1))) (rest := []) (c_X_within l G nn _ (by omega) what 0 1) lk_X_within ml_X_105 rfl (Nat.le_of_ble_eq_true rfl) (xRok (d' := d - 1) (by omega) (by decide)) ⟨Nat.le_refl _, Nat.le_refl _⟩ d_X_pace_40 rfl ?_
          refine X_ifb_ne (tgt := 49) d_X_pace_43 (by decide) (fun c_5 => ?_) (fun c_5 => ?_)
          ·
            refine X_knowH (a := 3) rfl (fun f3 hf3 => ?_)
            refine X_knowH (a := 4) rfl (fun f4 hf4 => ?_)
            refine X_aload_n d_X_pace_49 rfl rfl ?_
            refine X_aload_n d_X_pace_50 rfl rfl ?_
            refine X_iload_n d_X_pace_51 rfl rfl ?_
            refine X_callV (v := .ref (xg G (17 + 2 * i))) (rest := [.ref (xg G 0)]) (c_X_headAt l G nn (xup (xup xYf 3 (some sHead)) 4 (some sHead)) (xup (xup I 3 f3) 4 f4) (by omega) (xYok_4 (xYok_3 xYok_f _) _) i (by omega)) lk_X_headAt ml_X_124 (xm_obj (y0 (xYok_4 (xYok_3 xYok_f _) _))) rfl rfl (Nat.le_of_ble_eq_true rfl) (xRok (d' := d - 1) (by omega) (by decide)) ⟨Nat.le_refl _, Nat.le_refl _⟩ d_X_pace_52 rfl ?_
            refine X_aload_n d_X_pace_55 rfl rfl ?_
            refine X_callV (v := .ref (xg G (27 + 4 * ln))) (rest := [.ref (xg G (17 + 2 * i)), .ref (xg G 0)]) (c_X_law l G nn (xup (xup xYf 3 (some sHead)) 4 (some sHead)) (xup (xup I 3 f3) 4 f4) (by omega) (xYok_4 (xYok_3 xYok_f _) _) ln (by omega) ((congrFun (xup_n _ _ (by decide)) _).trans ((congrFun (xup_n _ _ (by decide)) _).trans (h12)))) lk_X_law ml_X_120 (xm_obj (y0 (xYok_4 (xYok_3 xYok_f _) _))) rfl rfl (Nat.le_of_ble_eq_true rfl) (xRok (d' := d - 1) (by omega) (by decide)) ⟨Nat.le_refl _, Nat.le_refl _⟩ d_X_pace_56 rfl ?_
            refine X_iload_n d_X_pace_59 rfl rfl ?_
            refine X_iload_n d_X_pace_60 rfl rfl ?_
            refine X_callVv (rest := []) (k_X_thinkTurned l G nn (xup (xup xYf 3 (some sHead)) 4 (some sHead)) (xup (xup I 3 f3) 4 f4) (by omega) (xYok_4 (xYok_3 xYok_f _) _) (show (xup (xup xYf 3 (some sHead)) 4 (some sHead)) 3 = some sHead from rfl) (17 + 2 * i) (yH (xYok_4 (xYok_3 xYok_f _) _) (show i < 5 by omega)) (by omega) (27 + 4 * ln) (S ln) (xTx_up (xTx_up (xTx_Y (xYok_4 (xYok_3 xYok_f _) _) (show ln < 6 by omega) (hTs ln hl)) (show (xup (xup xYf 3 (some sHead)) 4 (some sHead)) 3 = some sHead from rfl)) (show (xup (xup xYf 3 (some sHead)) 4 (some sHead)) 4 = some sHead from rfl)) n sp (xin_abs c_2) f3 (I (17 + 2 * i)) ((xup_n _ _ (by decide)).trans (xup_s _ _ _)) ((xup_n _ _ (by omega)).trans (xup_n _ _ (by omega))) (hR _ (by omega)) hf3) lk_X_thinkTurned ml_X_201 (xm_obj (y0 (xYok_4 (xYok_3 xYok_f _) _))) rfl rfl (Nat.le_of_ble_eq_true rfl) (xRok (d' := d - 1) (by omega) (by decide)) ⟨Nat.le_refl _, Nat.le_refl _⟩ d_X_pace_61 rfl ?_
            rw [xup_aba _ _ _ _ (show (4 : Nat) ≠ 3 from (by decide))]
            refine X_aload_n d_X_pace_64 rfl rfl ?_
            refine X_getR (r := 4) fg_X_23 (y0 (xYok_4 (xYok_3 xYok_f _) _)) rfl d_X_pace_65 ?_
            refine X_aload_n d_X_pace_68 rfl rfl ?_
            refine X_getR (r := 3) fg_X_19 (y0 (xYok_4 (xYok_3 xYok_f _) _)) rfl d_X_pace_69 ?_
            refine X_callVv (rest := []) (k_Head_become l G nn (xup (xup xYf 3 (some sHead)) 4 (some sHead)) (xup (xup I 3 (hSpin (S ln) n sp (hStd (I (17 + 2 * i))))) 4 f4) (by omega) 4 (show (xup (xup xYf 3 (some sHead)) 4 (some sHead)) 4 = some sHead from rfl) 3 (show (xup (xup xYf 3 (some sHead)) 4 (some sHead)) 3 = some sHead from rfl) (by decide) f4 (hSpin (S ln) n sp (hStd (I (17 + 2 * i)))) (xup_s _ _ _) ((xup_n _ _ (by decide)).trans (xup_s _ _ _)) (hOK_spin _ _ _ (hOK_sd (hR _ (by omega)))) hf4) lk_Head_become ml_X_235 (xm_obj (show (xup (xup xYf 3 (some sHead)) 4 (some sHead)) 4 = some sHead from rfl)) rfl rfl (Nat.le_of_ble_eq_true rfl) (xRok (d' := d - 1) (by omega) (by decide)) ⟨Nat.le_refl _, Nat.le_refl _⟩ d_X_pace_72 rfl ?_
            rw [xup_up]
            refine X_iconst (v := -1) d_X_pace_75 rfl ?_
            refine X_istore d_X_pace_76 (by decide) [1, 2, 3, 4, 5, 6, 0] (L' := [(0, .ref (xg G 0)), (1, .int (nI i)), (2, .int n), (3, .int sp), (4, .int far), (5, .int what), (6, .int (-1))]) rfl ?_
            refine X_iconst (v := -1) d_X_pace_78 rfl ?_
            refine X_istore d_X_pace_79 (by decide) [1, 2, 3, 4, 5, 6, 7, 0] (L' := [(0, .ref (xg G 0)), (1, .int (nI i)), (2, .int n), (3, .int sp), (4, .int far), (5, .int what), (6, .int (-1)), (7, .int (-1))]) rfl ?_
            refine X_bipush (v := 9) d_X_pace_81 rfl ?_
            refine X_istore d_X_pace_83 (by decide) [1, 2, 3, 4, 5, 6, 7, 8, 0] (L' := [(0, .ref (xg G 0)), (1, .int (nI i)), (2, .int n), (3, .int sp), (4, .int far), (5, .int what), (6, .int (-1)), (7, .int (-1)), (8, .int 9)]) rfl ?_
            refine X_sub [0, 4, 5, 6, 7, 8] (L' := [(0, .ref (xg G 0)), (4, .int far), (5, .int what), (6, .int (-1)), (7, .int (-1)), (8, .int 9)]) rfl ?_
            exact w_X_pace l G nn I (by omega) hc tc ln S hK far what _ c_4 (hOK_spin _ _ _ (hOK_sd (hR _ (by omega)))) _ 9 _ _ _ (hOK_spin _ _ _ (hOK_sd (hR _ (by omega)))).2 (by omega) (by first | (simp [aPace, c_1, nI_cl (show i < 2 ^ 31 by omega), c_2, c_3, c_4, c_5, xl_1_0, xl_1_1, xl_2_0, xl_2_1, xl_2_2]; done) | (clear hTs hR hK; simp_all [aPace, nI_cl (show i < 2 ^ 31 by omega)]; done))
          ·
            refine X_ldc cs_X_149 d_X_pace_46 ?_
            exact X_iret rfl (congrArg (fun q => some (Value.int q)) (by first | (simp [aPace, c_1, nI_cl (show i < 2 ^ 31 by omega), c_2, c_3, c_4, c_5, xl_1_0, xl_1_1, xl_2_0, xl_2_1, xl_2_2, xl_3_0, xl_3_1, xl_3_2, xl_3_3]; done) | (exfalso; simp_all; done) | (clear hTs hR hK; simp_all [aPace, nI_cl (show i < 2 ^ 31 by omega)]; done))) (xle_rf _) d_X_pace_48
  ·
    refine X_ldc cs_X_139 d_X_pace_8 ?_
    exact X_iret rfl (congrArg (fun q => some (Value.int q)) (by first | (simp [aPace, c_1, xl_1_0, xl_1_1, xl_2_0, xl_2_1, xl_2_2, xl_3_0, xl_3_1, xl_3_2, xl_3_3]; done) | (exfalso; simp_all; done) | (clear hTs hR hK; simp_all [aPace]; done))) (xle_rf _) d_X_pace_10
