def tsT (L : xSay) (sp : Int32) (f : Nat → Int32) (i : Nat) : Nat → Int32 := hSpinN L sp 1 (i / 2) f
def tsA (L : xSay) (sp : Int32) (f : Nat → Int32) (i : Nat) : Nat → Int32 := hSpinN L sp (-1) ((i - 1) / 2) f
def tsV (L : xSay) (sp : Int32) (f : Nat → Int32) (i : Nat) : Int32 := if i % 2 = 1 then hSpinN L sp 1 ((i + 1) / 2) f 2 else hSpinN L sp (-1) (i / 2) f 2
def tsR (L : xSay) (sp : Int32) (f g : Nat → Int32) (i : Nat) : Nat → Int32 := fun j => if j < i then tsV L sp f j else g j
theorem tsR_s (L : xSay) (sp : Int32) (f g : Nat → Int32) (i : Nat) {v : Int32} (h : v = tsV L sp f i) : xup (tsR L sp f g i) i v = tsR L sp f g (i + 1) := by
  subst h
  funext j
  by_cases hj : j = i
  · subst hj; rw [xup_s, tsR, if_pos (by omega)]
  · rw [xup_n _ _ hj, tsR, tsR]
    by_cases h2 : j < i
    · rw [if_pos h2, if_pos (by omega)]
    · rw [if_neg h2, if_neg (by omega)]
theorem rem2_1 {i : Nat} (hi : i < 1000) : (nI i - nI i / 2 * 2 = 1) ↔ i % 2 = 1 := by
  have e : nI i - nI i / 2 * 2 = nI (i % 2) := pk_rem (a := i) (d := 2) (by omega) (by decide) (by decide)
  rw [e]
  exact nI_eq (a := i % 2) (b := 1) (by omega) (by decide)
theorem hOK_ts (L : xSay) (sp : Int32) {f : Nat → Int32} (h : hOK f) (i : Nat) : hOK (tsT L sp f i) ∧ hOK (tsA L sp f i) := ⟨hOK_spinN _ _ _ h _, hOK_spinN _ _ _ h _⟩
def Q_X_fillTurnedSenses (l : Launch) (G : xG) (d nn : Nat) (I : xI) (ln : Nat) (S : Nat → xSay) (e : Nat) (sp : Int32) (f g : Nat → Int32) (i : Nat) : Prop := XW l G (xR d 0 0) y_X_fillTurnedSenses b_X_fillTurnedSenses 4 none xK0 (xZ G nn (xm G (xup (xup (xup xYf 3 (some sHead)) 4 (some sHead)) 5 (some (sInts 81))) (xup (xup (xup I 3 (tsT (S ln) sp f (81))) 4 (tsA (S ln) sp f (81))) 5 (tsR (S ln) sp f g (81)))) none 0 0) nn (xm G (xup (xup (xup xYf 3 (some sHead)) 4 (some sHead)) 5 (some (sInts 81))) (xup (xup (xup I 3 (tsT (S ln) sp f (i))) 4 (tsA (S ln) sp f (i))) 5 (tsR (S ln) sp f g (i)))) 0 0 18 [(0, .ref (xg G 0)), (1, .ref (xg G (17 + 2 * e))), (2, .int sp), (3, .int (nI i))] []
theorem w_X_fillTurnedSenses (l : Launch) (G : xG) {d : Nat} (nn : Nat) (I : xI) (hd : 9 ≤ d) (hc tc ln : Nat) (S : Nat → xSay) (hK : cOK I hc tc ln S) (e : Nat) (sp : Int32) (f g : Nat → Int32) (hf : hOK f) (i : Nat) (hi : i ≤ 81) (ih : i < 81 → Q_X_fillTurnedSenses l G d nn I ln S e sp f g (i + 1)) : Q_X_fillTurnedSenses l G d nn I ln S e sp f g i := by
  obtain ⟨⟨h10, h5⟩, ⟨h11, h6⟩, ⟨h12, hl⟩, hTs, hR⟩ := id hK
  unfold Q_X_fillTurnedSenses
  refine X_iload_n d_X_fillTurnedSenses_18 rfl rfl ?_
  refine X_aload_n d_X_fillTurnedSenses_19 rfl rfl ?_
  refine X_getR (r := 5) fg_X_26 (y0 (xYok_5 (xYok_4 (xYok_3 xYok_f _) _) _)) rfl d_X_fillTurnedSenses_20 ?_
  refine X_alenI (v := 81) (show (xup (xup (xup xYf 3 (some sHead)) 4 (some sHead)) 5 (some (sInts 81))) 5 = some (sInts 81) from rfl) rfl d_X_fillTurnedSenses_23 ?_
  refine X_icmp_ge (tgt := 103) d_X_fillTurnedSenses_24 (by decide) (fun c_1 => ?_) (fun c_1 => ?_)
  ·
    have hdone : i = 81 := nI_done hi (by decide) c_1
    subst hdone
    exact X_vret rfl rfl (xle_rf _) d_X_fillTurnedSenses_103
  ·
    refine X_iload_n d_X_fillTurnedSenses_27 rfl rfl ?_
    refine X_iconst (v := 2) d_X_fillTurnedSenses_28 rfl ?_
    refine X_irem d_X_fillTurnedSenses_29 (by decide) ?_
    refine X_iconst (v := 1) d_X_fillTurnedSenses_30 rfl ?_
    refine X_icmp_ne (tgt := 50) d_X_fillTurnedSenses_31 (by decide) (fun c_2 => ?_) (fun c_2 => ?_)
    ·
      refine X_iload_n d_X_fillTurnedSenses_50 rfl rfl ?_
      refine X_if_le (tgt := 67) d_X_fillTurnedSenses_51 (by decide) (fun c_3 => ?_) (fun c_3 => ?_)
      ·
        refine X_aload_n d_X_fillTurnedSenses_67 rfl rfl ?_
        refine X_getR (r := 5) fg_X_26 (y0 (xYok_5 (xYok_4 (xYok_3 xYok_f _) _) _)) rfl d_X_fillTurnedSenses_68 ?_
        refine X_iload_n d_X_fillTurnedSenses_71 rfl rfl ?_
        refine X_iload_n d_X_fillTurnedSenses_72 rfl rfl ?_
        refine X_iconst (v := 2) d_X_fillTurnedSenses_73 rfl ?_
        refine X_irem d_X_fillTurnedSenses_74 (by decide) ?_
        refine X_iconst (v := 1) d_X_fillTurnedSenses_75 rfl ?_
        refine X_icmp_ne (tgt := 89) d_X_fillTurnedSenses_76 (by decide) (fun _ => ?_) (fun c_4 => absurd c_4 c_2)
        refine X_aload_n d_X_fillTurnedSenses_89 rfl rfl ?_
        refine X_getR (r := 4) fg_X_23 (y0 (xYok_5 (xYok_4 (xYok_3 xYok_f _) _) _)) rfl d_X_fillTurnedSenses_90 ?_
        refine X_getI (v := (tsA (S ln) sp f i) 2) fg_X_140 (show (xup (xup (xup xYf 3 (some sHead)) 4 (some sHead)) 5 (some (sInts 81))) 4 = some sHead from rfl) rfl ((congrFun (xup_n _ _ (by decide)) _).trans (congrFun (xup_s _ _ _) _)) d_X_fillTurnedSenses_93 ?_
        refine X_astI (show (xup (xup (xup xYf 3 (some sHead)) 4 (some sHead)) 5 (some (sInts 81))) 5 = some (sInts 81) from rfl) (vp_in_nI (nI_more hi (by decide) c_1) (by decide)) d_X_fillTurnedSenses_96 ?_
        rw [nI_cl (show i < 2 ^ 31 by omega)]
        rw [xw_rec]
        refine X_iinc d_X_fillTurnedSenses_97 rfl (v := (nI i) + 1) rfl (by decide) [1, 2, 3, 0] (L' := [(0, .ref (xg G 0)), (1, .ref (xg G (17 + 2 * e))), (2, .int sp), (3, .int ((nI i) + 1))]) rfl ?_
        refine X_goto (tgt := 18) d_X_fillTurnedSenses_100 (by decide) ?_
        have hlt : i < 81 := nI_more hi (by decide) c_1
        have key := ih hlt
        unfold Q_X_fillTurnedSenses at key
        have ho : ¬ i % 2 = 1 := fun q => c_2 ((rem2_1 (by omega)).mpr q)
        have hp : i = 0 := by
          rcases Nat.eq_zero_or_pos i with z | z
          · exact z
          · exact absurd (show nI 0 < nI i from nI_lt z (by omega)) (Int32.not_lt.mpr c_3)
        subst hp
        have e5 : xup (tsR (S ln) sp f g 0) 0 ((tsA (S ln) sp f 0) 2) = tsR (S ln) sp f g (0 + 1) := tsR_s _ _ _ _ _ rfl
        rw [nI_1, e5]
        exact key
      ·
        refine X_aload_n d_X_fillTurnedSenses_54 rfl rfl ?_
        refine X_getR (r := 4) fg_X_23 (y0 (xYok_5 (xYok_4 (xYok_3 xYok_f _) _) _)) rfl d_X_fillTurnedSenses_55 ?_
        refine X_aload_n d_X_fillTurnedSenses_58 rfl rfl ?_
        refine X_callV (v := .ref (xg G (27 + 4 * ln))) (rest := [.ref (xg G 4)]) (c_X_law l G nn (xup (xup (xup xYf 3 (some sHead)) 4 (some sHead)) 5 (some (sInts 81))) (xup (xup (xup I 3 (tsT (S ln) sp f i)) 4 (tsA (S ln) sp f i)) 5 (tsR (S ln) sp f g i)) (by omega) (xYok_5 (xYok_4 (xYok_3 xYok_f _) _) _) ln (by omega) ((congrFun (xup_n _ _ (by decide)) _).trans ((congrFun (xup_n _ _ (by decide)) _).trans ((congrFun (xup_n _ _ (by decide)) _).trans (h12))))) lk_X_law ml_X_120 (xm_obj (y0 (xYok_5 (xYok_4 (xYok_3 xYok_f _) _) _))) rfl rfl (Nat.le_of_ble_eq_true rfl) (xRok (d' := d - 1) (by omega) (by decide)) ⟨Nat.le_refl _, Nat.le_refl _⟩ d_X_fillTurnedSenses_59 rfl ?_
        refine X_iload_n d_X_fillTurnedSenses_62 rfl rfl ?_
        refine X_iconst (v := -1) d_X_fillTurnedSenses_63 rfl ?_
        refine X_callVv (rest := []) (k_Head_spinOnce l G nn (xup (xup (xup xYf 3 (some sHead)) 4 (some sHead)) 5 (some (sInts 81))) (xup (xup (xup I 3 (tsT (S ln) sp f i)) 4 (tsA (S ln) sp f i)) 5 (tsR (S ln) sp f g i)) (by omega) 4 (show (xup (xup (xup xYf 3 (some sHead)) 4 (some sHead)) 5 (some (sInts 81))) 4 = some sHead from rfl) (27 + 4 * ln) (S ln) (xTx_upA (xTx_up (xTx_up (xTx_Y (xYok_5 (xYok_4 (xYok_3 xYok_f _) _) _) (show ln < 6 by omega) (hTs ln hl)) (show (xup (xup (xup xYf 3 (some sHead)) 4 (some sHead)) 5 (some (sInts 81))) 3 = some sHead from rfl)) (show (xup (xup (xup xYf 3 (some sHead)) 4 (some sHead)) 5 (some (sInts 81))) 4 = some sHead from rfl)) (by omega) (by omega) (by omega)) sp (-1) (tsA (S ln) sp f i) ((xup_n _ _ (by decide)).trans (xup_s _ _ _))) lk_Head_spinOnce ml_X_209 (xm_obj (show (xup (xup (xup xYf 3 (some sHead)) 4 (some sHead)) 5 (some (sInts 81))) 4 = some sHead from rfl)) rfl rfl (Nat.le_of_ble_eq_true rfl) (xRok (d' := d - 1) (by omega) (by decide)) ⟨Nat.le_refl _, Nat.le_refl _⟩ d_X_fillTurnedSenses_64 rfl ?_
        rw [xup_aba _ _ _ _ (show (5 : Nat) ≠ 4 from (by decide))]
        refine X_aload_n d_X_fillTurnedSenses_67 rfl rfl ?_
        refine X_getR (r := 5) fg_X_26 (y0 (xYok_5 (xYok_4 (xYok_3 xYok_f _) _) _)) rfl d_X_fillTurnedSenses_68 ?_
        refine X_iload_n d_X_fillTurnedSenses_71 rfl rfl ?_
        refine X_iload_n d_X_fillTurnedSenses_72 rfl rfl ?_
        refine X_iconst (v := 2) d_X_fillTurnedSenses_73 rfl ?_
        refine X_irem d_X_fillTurnedSenses_74 (by decide) ?_
        refine X_iconst (v := 1) d_X_fillTurnedSenses_75 rfl ?_
        refine X_icmp_ne (tgt := 89) d_X_fillTurnedSenses_76 (by decide) (fun _ => ?_) (fun c_5 => absurd c_5 c_2)
        refine X_aload_n d_X_fillTurnedSenses_89 rfl rfl ?_
        refine X_getR (r := 4) fg_X_23 (y0 (xYok_5 (xYok_4 (xYok_3 xYok_f _) _) _)) rfl d_X_fillTurnedSenses_90 ?_
        refine X_getI (v := (hSpin1 (S ln) sp (-1) (tsA (S ln) sp f i)) 2) fg_X_140 (show (xup (xup (xup xYf 3 (some sHead)) 4 (some sHead)) 5 (some (sInts 81))) 4 = some sHead from rfl) rfl ((congrFun (xup_n _ _ (by decide)) _).trans (congrFun (xup_s _ _ _) _)) d_X_fillTurnedSenses_93 ?_
        refine X_astI (show (xup (xup (xup xYf 3 (some sHead)) 4 (some sHead)) 5 (some (sInts 81))) 5 = some (sInts 81) from rfl) (vp_in_nI (nI_more hi (by decide) c_1) (by decide)) d_X_fillTurnedSenses_96 ?_
        rw [nI_cl (show i < 2 ^ 31 by omega)]
        rw [xw_rec]
        refine X_iinc d_X_fillTurnedSenses_97 rfl (v := (nI i) + 1) rfl (by decide) [1, 2, 3, 0] (L' := [(0, .ref (xg G 0)), (1, .ref (xg G (17 + 2 * e))), (2, .int sp), (3, .int ((nI i) + 1))]) rfl ?_
        refine X_goto (tgt := 18) d_X_fillTurnedSenses_100 (by decide) ?_
        have hlt : i < 81 := nI_more hi (by decide) c_1
        have key := ih hlt
        unfold Q_X_fillTurnedSenses at key
        have ho : ¬ i % 2 = 1 := fun q => c_2 ((rem2_1 (by omega)).mpr q)
        have hp : 0 < i := by
          rcases Nat.eq_zero_or_pos i with z | z
          · subst z; simp [nI_0] at c_3
          · exact z
        have e4 : hSpin1 (S ln) sp (-1) (tsA (S ln) sp f i) = tsA (S ln) sp f (i + 1) := by unfold tsA; rw [show (i + 1 - 1) / 2 = (i - 1) / 2 + 1 by omega]; rfl
        have e3 : tsT (S ln) sp f i = tsT (S ln) sp f (i + 1) := by unfold tsT; rw [show (i + 1) / 2 = i / 2 by omega]
        have e5 : xup (tsR (S ln) sp f g i) i ((hSpin1 (S ln) sp (-1) (tsA (S ln) sp f i)) 2) = tsR (S ln) sp f g (i + 1) := tsR_s _ _ _ _ _ (by rw [e4]; unfold tsV tsA; rw [if_neg ho, show (i + 1 - 1) / 2 = i / 2 by omega])
        rw [nI_1, e5, e4, e3]
        exact key
    ·
      refine X_aload_n d_X_fillTurnedSenses_34 rfl rfl ?_
      refine X_getR (r := 3) fg_X_19 (y0 (xYok_5 (xYok_4 (xYok_3 xYok_f _) _) _)) rfl d_X_fillTurnedSenses_35 ?_
      refine X_aload_n d_X_fillTurnedSenses_38 rfl rfl ?_
      refine X_callV (v := .ref (xg G (27 + 4 * ln))) (rest := [.ref (xg G 3)]) (c_X_law l G nn (xup (xup (xup xYf 3 (some sHead)) 4 (some sHead)) 5 (some (sInts 81))) (xup (xup (xup I 3 (tsT (S ln) sp f i)) 4 (tsA (S ln) sp f i)) 5 (tsR (S ln) sp f g i)) (by omega) (xYok_5 (xYok_4 (xYok_3 xYok_f _) _) _) ln (by omega) ((congrFun (xup_n _ _ (by decide)) _).trans ((congrFun (xup_n _ _ (by decide)) _).trans ((congrFun (xup_n _ _ (by decide)) _).trans (h12))))) lk_X_law ml_X_120 (xm_obj (y0 (xYok_5 (xYok_4 (xYok_3 xYok_f _) _) _))) rfl rfl (Nat.le_of_ble_eq_true rfl) (xRok (d' := d - 1) (by omega) (by decide)) ⟨Nat.le_refl _, Nat.le_refl _⟩ d_X_fillTurnedSenses_39 rfl ?_
      refine X_iload_n d_X_fillTurnedSenses_42 rfl rfl ?_
      refine X_iconst (v := 1) d_X_fillTurnedSenses_43 rfl ?_
      refine X_callVv (rest := []) (k_Head_spinOnce l G nn (xup (xup (xup xYf 3 (some sHead)) 4 (some sHead)) 5 (some (sInts 81))) (xup (xup (xup I 3 (tsT (S ln) sp f i)) 4 (tsA (S ln) sp f i)) 5 (tsR (S ln) sp f g i)) (by omega) 3 (show (xup (xup (xup xYf 3 (some sHead)) 4 (some sHead)) 5 (some (sInts 81))) 3 = some sHead from rfl) (27 + 4 * ln) (S ln) (xTx_upA (xTx_up (xTx_up (xTx_Y (xYok_5 (xYok_4 (xYok_3 xYok_f _) _) _) (show ln < 6 by omega) (hTs ln hl)) (show (xup (xup (xup xYf 3 (some sHead)) 4 (some sHead)) 5 (some (sInts 81))) 3 = some sHead from rfl)) (show (xup (xup (xup xYf 3 (some sHead)) 4 (some sHead)) 5 (some (sInts 81))) 4 = some sHead from rfl)) (by omega) (by omega) (by omega)) sp 1 (tsT (S ln) sp f i) ((xup_n _ _ (by decide)).trans ((xup_n _ _ (by decide)).trans (xup_s _ _ _)))) lk_Head_spinOnce ml_X_209 (xm_obj (show (xup (xup (xup xYf 3 (some sHead)) 4 (some sHead)) 5 (some (sInts 81))) 3 = some sHead from rfl)) rfl rfl (Nat.le_of_ble_eq_true rfl) (xRok (d' := d - 1) (by omega) (by decide)) ⟨Nat.le_refl _, Nat.le_refl _⟩ d_X_fillTurnedSenses_44 rfl ?_
      rw [xup_abca _ _ _ _ _ (show (4 : Nat) ≠ 3 from (by decide)) (show (5 : Nat) ≠ 3 from (by decide))]
      refine X_goto (tgt := 67) d_X_fillTurnedSenses_47 (by decide) ?_
      refine X_aload_n d_X_fillTurnedSenses_67 rfl rfl ?_
      refine X_getR (r := 5) fg_X_26 (y0 (xYok_5 (xYok_4 (xYok_3 xYok_f _) _) _)) rfl d_X_fillTurnedSenses_68 ?_
      refine X_iload_n d_X_fillTurnedSenses_71 rfl rfl ?_
      refine X_iload_n d_X_fillTurnedSenses_72 rfl rfl ?_
      refine X_iconst (v := 2) d_X_fillTurnedSenses_73 rfl ?_
      refine X_irem d_X_fillTurnedSenses_74 (by decide) ?_
      refine X_iconst (v := 1) d_X_fillTurnedSenses_75 rfl ?_
      refine X_icmp_ne (tgt := 89) d_X_fillTurnedSenses_76 (by decide) (fun c_6 => absurd c_2 c_6) (fun _ => ?_)
      refine X_aload_n d_X_fillTurnedSenses_79 rfl rfl ?_
      refine X_getR (r := 3) fg_X_19 (y0 (xYok_5 (xYok_4 (xYok_3 xYok_f _) _) _)) rfl d_X_fillTurnedSenses_80 ?_
      refine X_getI (v := (hSpin1 (S ln) sp 1 (tsT (S ln) sp f i)) 2) fg_X_140 (show (xup (xup (xup xYf 3 (some sHead)) 4 (some sHead)) 5 (some (sInts 81))) 3 = some sHead from rfl) rfl ((congrFun (xup_n _ _ (by decide)) _).trans ((congrFun (xup_n _ _ (by decide)) _).trans (congrFun (xup_s _ _ _) _))) d_X_fillTurnedSenses_83 ?_
      refine X_goto (tgt := 96) d_X_fillTurnedSenses_86 (by decide) ?_
      refine X_astI (show (xup (xup (xup xYf 3 (some sHead)) 4 (some sHead)) 5 (some (sInts 81))) 5 = some (sInts 81) from rfl) (vp_in_nI (nI_more hi (by decide) c_1) (by decide)) d_X_fillTurnedSenses_96 ?_
      rw [nI_cl (show i < 2 ^ 31 by omega)]
      rw [xw_rec]
      refine X_iinc d_X_fillTurnedSenses_97 rfl (v := (nI i) + 1) rfl (by decide) [1, 2, 3, 0] (L' := [(0, .ref (xg G 0)), (1, .ref (xg G (17 + 2 * e))), (2, .int sp), (3, .int ((nI i) + 1))]) rfl ?_
      refine X_goto (tgt := 18) d_X_fillTurnedSenses_100 (by decide) ?_
      have hlt : i < 81 := nI_more hi (by decide) c_1
      have key := ih hlt
      unfold Q_X_fillTurnedSenses at key
      have ho : i % 2 = 1 := (rem2_1 (by omega)).mp c_2
      have e3 : hSpin1 (S ln) sp 1 (tsT (S ln) sp f i) = tsT (S ln) sp f (i + 1) := by unfold tsT; rw [show (i + 1) / 2 = i / 2 + 1 by omega]; rfl
      have e4 : tsA (S ln) sp f i = tsA (S ln) sp f (i + 1) := by unfold tsA; rw [show (i + 1 - 1) / 2 = (i - 1) / 2 by omega]
      have e5 : xup (tsR (S ln) sp f g i) i ((hSpin1 (S ln) sp 1 (tsT (S ln) sp f i)) 2) = tsR (S ln) sp f g (i + 1) := tsR_s _ _ _ _ _ (by rw [e3]; unfold tsV tsT; rw [if_pos ho])
      rw [nI_1, e5, e3, e4]
      exact key
theorem k_X_fillTurnedSenses (l : Launch) (G : xG) {d : Nat} (nn : Nat) (I : xI) (hd : 10 ≤ d) (hc tc ln : Nat) (S : Nat → xSay) (hK : cOK I hc tc ln S) (e : Nat) (he : e < 5) (sp : Int32) (f3 f4 f5 g : Nat → Int32) (hf3 : hZ f3) (hf4 : hZ f4) (hg : I (17 + 2 * e) = g) : XM l G d y_X_fillTurnedSenses b_X_fillTurnedSenses 4 none 0 0 xK0 [.ref (xg G 0), .ref (xg G (17 + 2 * e)), .int sp] nn (xm G (xup (xup (xup xYf 3 (some sHead)) 4 (some sHead)) 5 (some (sInts 81))) (xup (xup (xup I 3 f3) 4 f4) 5 f5)) none nn (xm G (xup (xup (xup xYf 3 (some sHead)) 4 (some sHead)) 5 (some (sInts 81))) (xup (xup (xup I 3 (tsT (S ln) sp (hStd g) 81)) 4 (tsA (S ln) sp (hStd g) 81)) 5 (tsR (S ln) sp (hStd g) f5 81))) := by
  subst hg
  obtain ⟨⟨h10, h5⟩, ⟨h11, h6⟩, ⟨h12, hl⟩, hTs, hR⟩ := id hK
  refine XM.of (by decide) (Nat.le_of_ble_eq_true rfl) (L := [(0, .ref (xg G 0)), (1, .ref (xg G (17 + 2 * e))), (2, .int sp)]) rfl ?_
  refine X_aload_n d_X_fillTurnedSenses_0 rfl rfl ?_
  refine X_aload_n d_X_fillTurnedSenses_1 rfl rfl ?_
  refine X_callVv (rest := []) (k_X_think l G nn (xup (xup (xup xYf 3 (some sHead)) 4 (some sHead)) 5 (some (sInts 81))) (xup (xup (xup I 3 f3) 4 f4) 5 f5) (by omega) (xYok_5 (xYok_4 (xYok_3 xYok_f _) _) _) (show (xup (xup (xup xYf 3 (some sHead)) 4 (some sHead)) 5 (some (sInts 81))) 3 = some sHead from rfl) (17 + 2 * e) (yH (xYok_5 (xYok_4 (xYok_3 xYok_f _) _) _) (show e < 5 by omega)) (by omega) f3 (I (17 + 2 * e)) ((xup_n _ _ (by decide)).trans ((xup_n _ _ (by decide)).trans (xup_s _ _ _))) ((xup_n _ _ (by omega)).trans ((xup_n _ _ (by omega)).trans (xup_n _ _ (by omega)))) (hR _ (by omega)) hf3) lk_X_think ml_X_205 (xm_obj (y0 (xYok_5 (xYok_4 (xYok_3 xYok_f _) _) _))) rfl rfl (Nat.le_of_ble_eq_true rfl) (xRok (d' := d - 1) (by omega) (by decide)) ⟨Nat.le_refl _, Nat.le_refl _⟩ d_X_fillTurnedSenses_2 rfl ?_
  rw [xup_abca _ _ _ _ _ (show (4 : Nat) ≠ 3 from (by decide)) (show (5 : Nat) ≠ 3 from (by decide))]
  refine X_aload_n d_X_fillTurnedSenses_5 rfl rfl ?_
  refine X_getR (r := 4) fg_X_23 (y0 (xYok_5 (xYok_4 (xYok_3 xYok_f _) _) _)) rfl d_X_fillTurnedSenses_6 ?_
  refine X_aload_n d_X_fillTurnedSenses_9 rfl rfl ?_
  refine X_getR (r := 3) fg_X_19 (y0 (xYok_5 (xYok_4 (xYok_3 xYok_f _) _) _)) rfl d_X_fillTurnedSenses_10 ?_
  refine X_callVv (rest := []) (k_Head_become l G nn (xup (xup (xup xYf 3 (some sHead)) 4 (some sHead)) 5 (some (sInts 81))) (xup (xup (xup I 3 (hStd (I (17 + 2 * e)))) 4 f4) 5 f5) (by omega) 4 (show (xup (xup (xup xYf 3 (some sHead)) 4 (some sHead)) 5 (some (sInts 81))) 4 = some sHead from rfl) 3 (show (xup (xup (xup xYf 3 (some sHead)) 4 (some sHead)) 5 (some (sInts 81))) 3 = some sHead from rfl) (by decide) f4 (hStd (I (17 + 2 * e))) ((xup_n _ _ (by decide)).trans (xup_s _ _ _)) ((xup_n _ _ (by decide)).trans ((xup_n _ _ (by decide)).trans (xup_s _ _ _))) (hOK_sd (hR _ (by omega))) hf4) lk_Head_become ml_X_235 (xm_obj (show (xup (xup (xup xYf 3 (some sHead)) 4 (some sHead)) 5 (some (sInts 81))) 4 = some sHead from rfl)) rfl rfl (Nat.le_of_ble_eq_true rfl) (xRok (d' := d - 1) (by omega) (by decide)) ⟨Nat.le_refl _, Nat.le_refl _⟩ d_X_fillTurnedSenses_13 rfl ?_
  rw [xup_aba _ _ _ _ (show (5 : Nat) ≠ 4 from (by decide))]
  refine X_iconst (v := 0) d_X_fillTurnedSenses_16 rfl ?_
  refine X_istore_n d_X_fillTurnedSenses_17 rfl (by decide) [1, 2, 3, 0] (L' := [(0, .ref (xg G 0)), (1, .ref (xg G (17 + 2 * e))), (2, .int sp), (3, .int 0)]) rfl ?_
  have hq := xloop (T := 81) (fun i hi ih => w_X_fillTurnedSenses (d := d) l G nn I (by omega) hc tc ln S hK e sp (hStd (I (17 + 2 * e))) f5 (hOK_sd (hR _ he)) i hi ih) 0 (Nat.zero_le _)
  unfold Q_X_fillTurnedSenses at hq
  exact hq
def sRoses (L : xSay) (pace sec at_ : Int32) (f g : Nat → Int32) : Nat → Nat → Int32 → Int32 → Int32 × Int32
  | 0, _, best, least => (best, least)
  | k + 1, i, best, least => if nI i = 0 ∨ xabs (hGo L pace 1 sec.toNatClampNeg (xup (hStd f) 2 (g i)) 6 - at_) < least then sRoses L pace sec at_ f g k (i + 1) (xta (nI i)) (xabs (hGo L pace 1 sec.toNatClampNeg (xup (hStd f) 2 (g i)) 6 - at_)) else sRoses L pace sec at_ f g k (i + 1) best least
theorem sRoses_cong (L : xSay) (pace sec at_ : Int32) (f : Nat → Int32) {g g2 : Nat → Int32} {n : Nat} (hg : ∀ j, j < n → g j = g2 j) : ∀ (k i : Nat) (best least : Int32), i + k = n → sRoses L pace sec at_ f g k i best least = sRoses L pace sec at_ f g2 k i best least
  | 0, _, _, _, _ => rfl
  | k + 1, i, best, least, h => by
    rw [sRoses, sRoses, hg i (by omega), sRoses_cong L pace sec at_ f hg k (i + 1) _ _ (by omega), sRoses_cong L pace sec at_ f hg k (i + 1) _ _ (by omega)]
def aRoses (hc : Nat) (L : xSay) (R : Nat → Nat → Int32) (h sp sec at_ what : Int32) : Int32 := if xin h 0 (nI hc - 1) = true then (if xsp sp = true ∧ xin sec 0 60 = true ∧ xin at_ (-99999) 99999 = true ∧ xin what 0 1 = true then rUndo what (sRoses L (sp - sp / 10 * 10) sec at_ (R h.toNatClampNeg) (tsV L (sp / 10) (hStd (R h.toNatClampNeg))) 81 0 0 0) else -100007) else -100005
theorem tsR_81 (L : xSay) (sp : Int32) (f g : Nat → Int32) : ∀ j, j < 81 → tsR L sp f g 81 j = tsV L sp f j := fun j hj => if_pos hj
def Q_X_roses (l : Launch) (G : xG) (d nn : Nat) (I : xI) (ln : Nat) (S : Nat → xSay) (e : Nat) (sp : Int32) (sec : Int32) (at_ : Int32) (what : Int32) (b : Nat → Int32) (g : Nat → Int32) (r : Int32) (j : Nat) (best : Int32) (least : Int32) (a : Nat → Int32) : Prop := XW l G (xR d 0 0) y_X_roses b_X_roses 11 (some .int) xK0 (xZ G nn (xm G xYf (I)) (some (.int r)) 0 0) nn (xm G (xup (xup (xup xYf 3 (some sHead)) 4 (some sHead)) 5 (some (sInts 81))) (xup (xup (xup I 3 a) 4 b) 5 g)) 0 0 76 [(0, .ref (xg G 0)), (2, .int sp), (3, .int sec), (4, .int at_), (5, .int what), (6, .ref (xg G (17 + 2 * e))), (7, .int best), (8, .int least), (9, .int (nI j))] []
theorem w_X_roses (l : Launch) (G : xG) {d : Nat} (nn : Nat) (I : xI) (hd : 10 ≤ d) (hc tc ln : Nat) (S : Nat → xSay) (hK : cOK I hc tc ln S) (e : Nat) (sp : Int32) (sec : Int32) (at_ : Int32) (what : Int32) (b : Nat → Int32) (g : Nat → Int32) (he : e < 5) (hsec : ¬ sec < 0) (r : Int32) : ∀ (k j : Nat) (best : Int32) (least : Int32) (a : Nat → Int32) (hy_a : hZ a), j + k = 81 → r = rUndo what (sRoses (S ln) (sp - sp / 10 * 10) sec at_ (I (17 + 2 * e)) g k j best least) → Q_X_roses l G d nn I ln S e sp sec at_ what b g r j best least a := by
  obtain ⟨⟨h10, h5⟩, ⟨h11, h6⟩, ⟨h12, hl⟩, hTs, hR⟩ := id hK
  intro k
  induction k with
  | zero =>
    intro j best least a hy_a hk hr
    unfold Q_X_roses
    refine X_iload d_X_roses_76 rfl ?_
    refine X_aload_n d_X_roses_78 rfl rfl ?_
    refine X_getR (r := 5) fg_X_26 (y0 (xYok_5 (xYok_4 (xYok_3 xYok_f _) _) _)) rfl d_X_roses_79 ?_
    refine X_alenI (v := 81) (show (xup (xup (xup xYf 3 (some sHead)) 4 (some sHead)) 5 (some (sInts 81))) 5 = some (sInts 81) from rfl) rfl d_X_roses_82 ?_
    refine X_icmp_ge (tgt := 168) d_X_roses_83 (by decide) (fun _ => ?_) (fun c_1 => absurd c_1 (not_not_intro (show nI 81 ≤ nI j from nI_le (by omega) (by omega))))
    refine X_iload d_X_roses_168 rfl ?_
    refine X_if_ne (tgt := 178) d_X_roses_170 (by decide) (fun c_2 => ?_) (fun c_2 => ?_)
    ·
      refine X_iload d_X_roses_178 rfl ?_
      exact X_iret rfl (congrArg (fun q => some (Value.int q)) (by rw [hr]; first | (simp [sRoses, rUndo, c_2]; done) | simp_all [sRoses, rUndo])) (xle_345 (fun k hk hk4 hk5 => by simp only [xw_row _ _ _ hk5, xup_n _ _ hk, xup_n _ _ hk4, xup_n _ _ hk5])) d_X_roses_180
    ·
      refine X_iload d_X_roses_173 rfl ?_
      refine X_goto (tgt := 180) d_X_roses_175 (by decide) ?_
      exact X_iret rfl (congrArg (fun q => some (Value.int q)) (by rw [hr]; first | (simp [sRoses, rUndo, c_2]; done) | simp_all [sRoses, rUndo])) (xle_345 (fun k hk hk4 hk5 => by simp only [xw_row _ _ _ hk5, xup_n _ _ hk, xup_n _ _ hk4, xup_n _ _ hk5])) d_X_roses_180
  | succ k ih =>
    intro j best least a hy_a hk hr
    unfold Q_X_roses
    refine X_iload d_X_roses_76 rfl ?_
    refine X_aload_n d_X_roses_78 rfl rfl ?_
    refine X_getR (r := 5) fg_X_26 (y0 (xYok_5 (xYok_4 (xYok_3 xYok_f _) _) _)) rfl d_X_roses_79 ?_
    refine X_alenI (v := 81) (show (xup (xup (xup xYf 3 (some sHead)) 4 (some sHead)) 5 (some (sInts 81))) 5 = some (sInts 81) from rfl) rfl d_X_roses_82 ?_
    refine X_icmp_ge (tgt := 168) d_X_roses_83 (by decide) (fun c_1 => absurd c_1 (show ¬ nI 81 ≤ nI j from nI_ge (by omega) (by omega))) (fun _ => ?_)
    refine X_aload_n d_X_roses_86 rfl rfl ?_
    refine X_aload d_X_roses_87 rfl ?_
    refine X_callVv (rest := []) (k_X_think l G nn (xup (xup (xup xYf 3 (some sHead)) 4 (some sHead)) 5 (some (sInts 81))) (xup (xup (xup I 3 a) 4 b) 5 g) (by omega) (xYok_5 (xYok_4 (xYok_3 xYok_f _) _) _) (show (xup (xup (xup xYf 3 (some sHead)) 4 (some sHead)) 5 (some (sInts 81))) 3 = some sHead from rfl) (17 + 2 * e) (yH (xYok_5 (xYok_4 (xYok_3 xYok_f _) _) _) (show e < 5 by omega)) (by omega) a (I (17 + 2 * e)) ((xup_n _ _ (by decide)).trans ((xup_n _ _ (by decide)).trans (xup_s _ _ _))) ((xup_n _ _ (by omega)).trans ((xup_n _ _ (by omega)).trans (xup_n _ _ (by omega)))) (hR _ (by omega)) hy_a) lk_X_think ml_X_205 (xm_obj (y0 (xYok_5 (xYok_4 (xYok_3 xYok_f _) _) _))) rfl rfl (Nat.le_of_ble_eq_true rfl) (xRok (d' := d - 1) (by omega) (by decide)) ⟨Nat.le_refl _, Nat.le_refl _⟩ d_X_roses_89 rfl ?_
    rw [xup_abca _ _ _ _ _ (show (4 : Nat) ≠ 3 from (by decide)) (show (5 : Nat) ≠ 3 from (by decide))]
    refine X_aload_n d_X_roses_92 rfl rfl ?_
    refine X_getR (r := 3) fg_X_19 (y0 (xYok_5 (xYok_4 (xYok_3 xYok_f _) _) _)) rfl d_X_roses_93 ?_
    refine X_aload_n d_X_roses_96 rfl rfl ?_
    refine X_getR (r := 5) fg_X_26 (y0 (xYok_5 (xYok_4 (xYok_3 xYok_f _) _) _)) rfl d_X_roses_97 ?_
    refine X_iload d_X_roses_100 rfl ?_
    refine X_aldI (v := g j) (show (xup (xup (xup xYf 3 (some sHead)) 4 (some sHead)) 5 (some (sInts 81))) 5 = some (sInts 81) from rfl) (vp_in_nI (show j < 81 by omega) (by decide)) ((by rw [nI_cl (show j < 2 ^ 31 by omega)]; exact congrFun (xup_s _ _ _) _)) d_X_roses_102 ?_
    refine X_putI fp_X_140 (show (xup (xup (xup xYf 3 (some sHead)) 4 (some sHead)) 5 (some (sInts 81))) 3 = some sHead from rfl) rfl d_X_roses_103 ?_
    rw [xw_recab _ _ _ _ (show (4 : Nat) ≠ 3 from (by decide)) (show (5 : Nat) ≠ 3 from (by decide))]
    refine X_aload_n d_X_roses_106 rfl rfl ?_
    refine X_getR (r := 3) fg_X_19 (y0 (xYok_5 (xYok_4 (xYok_3 xYok_f _) _) _)) rfl d_X_roses_107 ?_
    refine X_aload_n d_X_roses_110 rfl rfl ?_
    refine X_callV (v := .ref (xg G (27 + 4 * ln))) (rest := [.ref (xg G 3)]) (c_X_law l G nn (xup (xup (xup xYf 3 (some sHead)) 4 (some sHead)) 5 (some (sInts 81))) (xup (xup (xup I 3 (xup (hStd (I (17 + 2 * e))) 2 (g j))) 4 b) 5 g) (by omega) (xYok_5 (xYok_4 (xYok_3 xYok_f _) _) _) ln (by omega) ((congrFun (xup_n _ _ (by decide)) _).trans ((congrFun (xup_n _ _ (by decide)) _).trans ((congrFun (xup_n _ _ (by decide)) _).trans (h12))))) lk_X_law ml_X_120 (xm_obj (y0 (xYok_5 (xYok_4 (xYok_3 xYok_f _) _) _))) rfl rfl (Nat.le_of_ble_eq_true rfl) (xRok (d' := d - 1) (by omega) (by decide)) ⟨Nat.le_refl _, Nat.le_refl _⟩ d_X_roses_111 rfl ?_
    refine X_iload_n d_X_roses_114 rfl rfl ?_
    refine X_iload_n d_X_roses_115 rfl rfl ?_
    refine X_bipush (v := 10) d_X_roses_116 rfl ?_
    refine X_irem d_X_roses_118 (by decide) ?_
    refine X_iconst (v := 1) d_X_roses_119 rfl ?_
    refine X_callV (v := .int (hFall (S ln) (sp - sp / 10 * 10) 1 (sec).toNatClampNeg 0 (xup (hStd (I (17 + 2 * e))) 2 (g j)))) (rest := []) (k_Head_goOn l G nn (xup (xup (xup xYf 3 (some sHead)) 4 (some sHead)) 5 (some (sInts 81))) (xup (xup (xup I 3 (xup (hStd (I (17 + 2 * e))) 2 (g j))) 4 b) 5 g) (by omega) 3 (show (xup (xup (xup xYf 3 (some sHead)) 4 (some sHead)) 5 (some (sInts 81))) 3 = some sHead from rfl) (27 + 4 * ln) (S ln) (xTx_upA (xTx_up (xTx_up (xTx_Y (xYok_5 (xYok_4 (xYok_3 xYok_f _) _) _) (show ln < 6 by omega) (hTs ln hl)) (show (xup (xup (xup xYf 3 (some sHead)) 4 (some sHead)) 5 (some (sInts 81))) 3 = some sHead from rfl)) (show (xup (xup (xup xYf 3 (some sHead)) 4 (some sHead)) 5 (some (sInts 81))) 4 = some sHead from rfl)) (by omega) (by omega) (by omega)) sec (sp - sp / 10 * 10) 1 hsec (xup (hStd (I (17 + 2 * e))) 2 (g j)) ((xup_n _ _ (by decide)).trans ((xup_n _ _ (by decide)).trans (xup_s _ _ _))) (hOK_up (hOK_sd (hR _ (by omega))) (by decide) _).1) lk_Head_goOn ml_X_191 (xm_obj (show (xup (xup (xup xYf 3 (some sHead)) 4 (some sHead)) 5 (some (sInts 81))) 3 = some sHead from rfl)) rfl rfl (Nat.le_of_ble_eq_true rfl) (xRok (d' := d - 1) (by omega) (by decide)) ⟨Nat.le_refl _, Nat.le_refl _⟩ d_X_roses_120 rfl ?_
    rw [xup_abca _ _ _ _ _ (show (4 : Nat) ≠ 3 from (by decide)) (show (5 : Nat) ≠ 3 from (by decide))]
    refine X_pop d_X_roses_123 rfl ?_
    refine X_aload_n d_X_roses_124 rfl rfl ?_
    refine X_getR (r := 3) fg_X_19 (y0 (xYok_5 (xYok_4 (xYok_3 xYok_f _) _) _)) rfl d_X_roses_125 ?_
    refine X_getI (v := (hGo (S ln) (sp - sp / 10 * 10) 1 (sec).toNatClampNeg (xup (hStd (I (17 + 2 * e))) 2 (g j))) 6) fg_X_159 (show (xup (xup (xup xYf 3 (some sHead)) 4 (some sHead)) 5 (some (sInts 81))) 3 = some sHead from rfl) rfl ((congrFun (xup_n _ _ (by decide)) _).trans ((congrFun (xup_n _ _ (by decide)) _).trans (congrFun (xup_s _ _ _) _))) d_X_roses_128 ?_
    refine X_iload d_X_roses_131 rfl ?_
    refine X_isub d_X_roses_133 ?_
    refine X_mabsx ml_X_216 mt_abs mi_math mc_abs (xRm (by omega) (Nat.le_of_ble_eq_true rfl)) ⟨Nat.zero_le _, Nat.zero_le _⟩ d_X_roses_134 ?_
    refine X_istore d_X_roses_137 (by decide) [1, 2, 3, 4, 5, 6, 7, 8, 9, 0] (L' := [(0, .ref (xg G 0)), (2, .int sp), (3, .int sec), (4, .int at_), (5, .int what), (6, .ref (xg G (17 + 2 * e))), (7, .int best), (8, .int least), (9, .int (nI j)), (10, .int (xabs (((hGo (S ln) (sp - sp / 10 * 10) 1 (sec).toNatClampNeg (xup (hStd (I (17 + 2 * e))) 2 (g j))) 6) - at_)))]) rfl ?_
    refine X_iload d_X_roses_139 rfl ?_
    refine X_if_eq (tgt := 151) d_X_roses_141 (by decide) (fun c_2 => ?_) (fun c_2 => ?_)
    ·
      refine X_iload d_X_roses_151 rfl ?_
      refine X_callS (v := .int (xta (nI j))) (rest := []) (c_X_turnsAt l G nn _ (by omega) (nI j)) lk_X_turnsAt ml_X_250 rfl (Nat.le_of_ble_eq_true rfl) (xRok (d' := d - 1) (by omega) (by decide)) ⟨Nat.le_refl _, Nat.le_refl _⟩ d_X_roses_153 rfl ?_
      refine X_istore d_X_roses_156 (by decide) [1, 2, 3, 4, 5, 6, 0, 7, 8, 9] (L' := [(0, .ref (xg G 0)), (2, .int sp), (3, .int sec), (4, .int at_), (5, .int what), (6, .ref (xg G (17 + 2 * e))), (7, .int (xta (nI j))), (8, .int least), (9, .int (nI j)), (10, .int (xabs (((hGo (S ln) (sp - sp / 10 * 10) 1 (sec).toNatClampNeg (xup (hStd (I (17 + 2 * e))) 2 (g j))) 6) - at_)))]) rfl ?_
      refine X_iload d_X_roses_158 rfl ?_
      refine X_istore d_X_roses_160 (by decide) [1, 2, 3, 4, 5, 6, 7, 0, 8, 9] (L' := [(0, .ref (xg G 0)), (2, .int sp), (3, .int sec), (4, .int at_), (5, .int what), (6, .ref (xg G (17 + 2 * e))), (7, .int (xta (nI j))), (8, .int (xabs (((hGo (S ln) (sp - sp / 10 * 10) 1 (sec).toNatClampNeg (xup (hStd (I (17 + 2 * e))) 2 (g j))) 6) - at_))), (9, .int (nI j)), (10, .int (xabs (((hGo (S ln) (sp - sp / 10 * 10) 1 (sec).toNatClampNeg (xup (hStd (I (17 + 2 * e))) 2 (g j))) 6) - at_)))]) rfl ?_
      refine X_iinc d_X_roses_162 rfl (v := (nI j) + 1) rfl (by decide) [1, 2, 3, 4, 5, 6, 7, 8, 0, 9] (L' := [(0, .ref (xg G 0)), (2, .int sp), (3, .int sec), (4, .int at_), (5, .int what), (6, .ref (xg G (17 + 2 * e))), (7, .int (xta (nI j))), (8, .int (xabs (((hGo (S ln) (sp - sp / 10 * 10) 1 (sec).toNatClampNeg (xup (hStd (I (17 + 2 * e))) 2 (g j))) 6) - at_))), (9, .int ((nI j) + 1)), (10, .int (xabs (((hGo (S ln) (sp - sp / 10 * 10) 1 (sec).toNatClampNeg (xup (hStd (I (17 + 2 * e))) 2 (g j))) 6) - at_)))]) rfl ?_
      refine X_goto (tgt := 76) d_X_roses_165 (by decide) ?_
      refine X_sub [0, 1, 2, 3, 4, 5, 6, 7, 8] (L' := [(0, .ref (xg G 0)), (2, .int sp), (3, .int sec), (4, .int at_), (5, .int what), (6, .ref (xg G (17 + 2 * e))), (7, .int (xta (nI j))), (8, .int (xabs (((hGo (S ln) (sp - sp / 10 * 10) 1 (sec).toNatClampNeg (xup (hStd (I (17 + 2 * e))) 2 (g j))) 6) - at_))), (9, .int ((nI j) + 1))]) rfl ?_
      simp only [nI_1]
      exact ih (j + 1) _ _ _ (hOK_go _ _ _ _ (hOK_up (hOK_sd (hR _ (by omega))) (by decide) _)).2 (by omega) (by rw [hr]; simp [sRoses, rUndo, c_2])
    ·
      refine X_iload d_X_roses_144 rfl ?_
      refine X_iload d_X_roses_146 rfl ?_
      refine X_icmp_ge (tgt := 162) d_X_roses_148 (by decide) (fun c_3 => ?_) (fun c_3 => ?_)
      ·
        refine X_iinc d_X_roses_162 rfl (v := (nI j) + 1) rfl (by decide) [1, 2, 3, 4, 5, 6, 7, 8, 0, 9] (L' := [(0, .ref (xg G 0)), (2, .int sp), (3, .int sec), (4, .int at_), (5, .int what), (6, .ref (xg G (17 + 2 * e))), (7, .int best), (8, .int least), (9, .int ((nI j) + 1)), (10, .int (xabs (((hGo (S ln) (sp - sp / 10 * 10) 1 (sec).toNatClampNeg (xup (hStd (I (17 + 2 * e))) 2 (g j))) 6) - at_)))]) rfl ?_
        refine X_goto (tgt := 76) d_X_roses_165 (by decide) ?_
        refine X_sub [0, 1, 2, 3, 4, 5, 6, 7, 8] (L' := [(0, .ref (xg G 0)), (2, .int sp), (3, .int sec), (4, .int at_), (5, .int what), (6, .ref (xg G (17 + 2 * e))), (7, .int best), (8, .int least), (9, .int ((nI j) + 1))]) rfl ?_
        simp only [nI_1]
        exact ih (j + 1) _ _ _ (hOK_go _ _ _ _ (hOK_up (hOK_sd (hR _ (by omega))) (by decide) _)).2 (by omega) (by rw [hr]; simp [sRoses, rUndo, c_2, c_3, Int32.not_lt.mpr c_3])
      ·
        refine X_iload d_X_roses_151 rfl ?_
        refine X_callS (v := .int (xta (nI j))) (rest := []) (c_X_turnsAt l G nn _ (by omega) (nI j)) lk_X_turnsAt ml_X_250 rfl (Nat.le_of_ble_eq_true rfl) (xRok (d' := d - 1) (by omega) (by decide)) ⟨Nat.le_refl _, Nat.le_refl _⟩ d_X_roses_153 rfl ?_
        refine X_istore d_X_roses_156 (by decide) [1, 2, 3, 4, 5, 6, 0, 7, 8, 9] (L' := [(0, .ref (xg G 0)), (2, .int sp), (3, .int sec), (4, .int at_), (5, .int what), (6, .ref (xg G (17 + 2 * e))), (7, .int (xta (nI j))), (8, .int least), (9, .int (nI j)), (10, .int (xabs (((hGo (S ln) (sp - sp / 10 * 10) 1 (sec).toNatClampNeg (xup (hStd (I (17 + 2 * e))) 2 (g j))) 6) - at_)))]) rfl ?_
        refine X_iload d_X_roses_158 rfl ?_
        refine X_istore d_X_roses_160 (by decide) [1, 2, 3, 4, 5, 6, 7, 0, 8, 9] (L' := [(0, .ref (xg G 0)), (2, .int sp), (3, .int sec), (4, .int at_), (5, .int what), (6, .ref (xg G (17 + 2 * e))), (7, .int (xta (nI j))), (8, .int (xabs (((hGo (S ln) (sp - sp / 10 * 10) 1 (sec).toNatClampNeg (xup (hStd (I (17 + 2 * e))) 2 (g j))) 6) - at_))), (9, .int (nI j)), (10, .int (xabs (((hGo (S ln) (sp - sp / 10 * 10) 1 (sec).toNatClampNeg (xup (hStd (I (17 + 2 * e))) 2 (g j))) 6) - at_)))]) rfl ?_
        refine X_iinc d_X_roses_162 rfl (v := (nI j) + 1) rfl (by decide) [1, 2, 3, 4, 5, 6, 7, 8, 0, 9] (L' := [(0, .ref (xg G 0)), (2, .int sp), (3, .int sec), (4, .int at_), (5, .int what), (6, .ref (xg G (17 + 2 * e))), (7, .int (xta (nI j))), (8, .int (xabs (((hGo (S ln) (sp - sp / 10 * 10) 1 (sec).toNatClampNeg (xup (hStd (I (17 + 2 * e))) 2 (g j))) 6) - at_))), (9, .int ((nI j) + 1)), (10, .int (xabs (((hGo (S ln) (sp - sp / 10 * 10) 1 (sec).toNatClampNeg (xup (hStd (I (17 + 2 * e))) 2 (g j))) 6) - at_)))]) rfl ?_
        refine X_goto (tgt := 76) d_X_roses_165 (by decide) ?_
        refine X_sub [0, 1, 2, 3, 4, 5, 6, 7, 8] (L' := [(0, .ref (xg G 0)), (2, .int sp), (3, .int sec), (4, .int at_), (5, .int what), (6, .ref (xg G (17 + 2 * e))), (7, .int (xta (nI j))), (8, .int (xabs (((hGo (S ln) (sp - sp / 10 * 10) 1 (sec).toNatClampNeg (xup (hStd (I (17 + 2 * e))) 2 (g j))) 6) - at_))), (9, .int ((nI j) + 1))]) rfl ?_
        simp only [nI_1]
        exact ih (j + 1) _ _ _ (hOK_go _ _ _ _ (hOK_up (hOK_sd (hR _ (by omega))) (by decide) _)).2 (by omega) (by rw [hr]; simp [sRoses, rUndo, c_2, c_3, Int32.not_le.mp c_3])
theorem c_X_roses (l : Launch) (G : xG) {d : Nat} (nn : Nat) (I : xI) (hd : 11 ≤ d) (hc tc ln : Nat) (S : Nat → xSay) (hK : cOK I hc tc ln S) (h sp sec at_ what : Int32) : XM l G d y_X_roses b_X_roses 11 (some .int) 0 0 xK0 [.ref (xg G 0), .int h, .int sp, .int sec, .int at_, .int what] nn (xm G xYf I) (some (.int (aRoses hc (S ln) (fun i => I (17 + 2 * i)) h sp sec at_ what))) nn (xm G xYf (I)) := by
  obtain ⟨⟨h10, h5⟩, ⟨h11, h6⟩, ⟨h12, hl⟩, hTs, hR⟩ := id hK
  refine XM.of (by decide) (Nat.le_of_ble_eq_true rfl) (L := [(0, .ref (xg G 0)), (1, .int h), (2, .int sp), (3, .int sec), (4, .int at_), (5, .int what)]) rfl ?_
  refine X_aload_n d_X_roses_0 rfl rfl ?_
  refine X_iload_n d_X_roses_1 rfl rfl ?_
  refine X_callV (v := .int (xb (xin h 0 (nI hc - 1)))) (rest := []) (c_X_isHead l G nn xYf I (by omega) xYok_f h (nI hc) (h10)) lk_X_isHead ml_X_113 (xm_obj (y0 xYok_f)) rfl rfl (Nat.le_of_ble_eq_true rfl) (xRok (d' := d - 1) (by omega) (by decide)) ⟨Nat.le_refl _, Nat.le_refl _⟩ d_X_roses_2 rfl ?_
  refine X_ifb_ne (tgt := 11) d_X_roses_5 (by decide) (fun c_1 => ?_) (fun c_1 => ?_)
  ·
    obtain ⟨i, hi, rfl⟩ := cHead h5 c_1
    refine X_iload_n d_X_roses_11 rfl rfl ?_
    refine X_callS (v := .int (xb (xsp sp))) (rest := []) (c_X_isSpeedPace l G nn _ (by omega) sp) lk_X_isSpeedPace ml_X_241 rfl (Nat.le_of_ble_eq_true rfl) (xRok (d' := d - 1) (by omega) (by decide)) ⟨Nat.le_refl _, Nat.le_refl _⟩ d_X_roses_12 rfl ?_
    refine X_ifb_eq (tgt := 47) d_X_roses_15 (by decide) (fun c_2 => ?_) (fun c_2 => ?_)
    ·
      refine X_ldc cs_X_149 d_X_roses_47 ?_
      exact X_iret rfl (congrArg (fun q => some (Value.int q)) (by first | (simp [aRoses, c_1, nI_cl (show i < 2 ^ 31 by omega), c_2, xl_1_0, xl_1_1, xl_2_0, xl_2_1, xl_2_2, xl_3_0, xl_3_1, xl_3_2, xl_3_3]; done) | (exfalso; simp_all; done) | (clear hTs hR hK; simp_all [aRoses, nI_cl (show i < 2 ^ 31 by omega)]; done))) (xle_rf _) d_X_roses_49
    ·
      refine X_iload_n d_X_roses_18 rfl rfl ?_
      refine X_callS (v := .int (xb (xin sec 0 60))) (rest := []) (c_X_isSeconds l G nn _ (by omega) sec) lk_X_isSeconds ml_X_185 rfl (Nat.le_of_ble_eq_true rfl) (xRok (d' := d - 1) (by omega) (by decide)) ⟨Nat.le_refl _, Nat.le_refl _⟩ d_X_roses_19 rfl ?_
      refine X_ifb_eq (tgt := 47) d_X_roses_22 (by decide) (fun c_3 => ?_) (fun c_3 => ?_)
      ·
        refine X_ldc cs_X_149 d_X_roses_47 ?_
        exact X_iret rfl (congrArg (fun q => some (Value.int q)) (by first | (simp [aRoses, c_1, nI_cl (show i < 2 ^ 31 by omega), c_2, c_3, xl_1_0, xl_1_1, xl_2_0, xl_2_1, xl_2_2, xl_3_0, xl_3_1, xl_3_2, xl_3_3]; done) | (exfalso; simp_all; done) | (clear hTs hR hK; simp_all [aRoses, nI_cl (show i < 2 ^ 31 by omega)]; done))) (xle_rf _) d_X_roses_49
      ·
        refine X_iload d_X_roses_25 rfl ?_
        refine X_ldc cs_X_244 d_X_roses_27 ?_
        refine X_ldc cs_X_245 d_X_roses_29 ?_
        refine X_callS (v := .int (xb (xin at_ (-99999) 99999))) (rest := []) (c_X_within l G nn _ (by omega) at_ (-99999) 99999) lk_X_within ml_X_105 rfl (Nat.le_of_ble_eq_true rfl) (xRok (d' := d - 1) (by omega) (by decide)) ⟨Nat.le_refl _, Nat.le_refl _⟩ d_X_roses_31 rfl ?_
        refine X_ifb_eq (tgt := 47) d_X_roses_34 (by decide) (fun c_4 => ?_) (fun c_4 => ?_)
        ·
          refine X_ldc cs_X_149 d_X_roses_47 ?_
          exact X_iret rfl (congrArg (fun q => some (Value.int q)) (by first | (simp [aRoses, c_1, nI_cl (show i < 2 ^ 31 by omega), c_2, c_3, c_4, xl_1_0, xl_1_1, xl_2_0, xl_2_1, xl_2_2, xl_3_0, xl_3_1, xl_3_2, xl_3_3]; done) | (exfalso; simp_all; done) | (clear hTs hR hK; simp_all [aRoses, nI_cl (show i < 2 ^ 31 by omega)]; done))) (xle_rf _) d_X_roses_49
        ·
          refine X_iload d_X_roses_37 rfl ?_
          refine X_iconst (v := 0) d_X_roses_39 rfl ?_
          refine X_iconst (v := 1) d_X_roses_40 rfl ?_
          refine X_callS (v := .int (xb (xin what 0 1))) (rest := []) (c_X_within l G nn _ (by omega) what 0 1) lk_X_within ml_X_105 rfl (Nat.le_of_ble_eq_true rfl) (xRok (d' := d - 1) (by omega) (by decide)) ⟨Nat.le_refl _, Nat.le_refl _⟩ d_X_roses_41 rfl ?_
          refine X_ifb_ne (tgt := 50) d_X_roses_44 (by decide) (fun c_5 => ?_) (fun c_5 => ?_)
          ·
            refine X_knowH (a := 3) rfl (fun f3 hf3 => ?_)
            refine X_knowH (a := 4) rfl (fun f4 hf4 => ?_)
            refine X_knowI (a := 5) (by decide) rfl (fun f5 => ?_)
            refine X_aload_n d_X_roses_50 rfl rfl ?_
            refine X_iload_n d_X_roses_51 rfl rfl ?_
            refine X_callV (v := .ref (xg G (17 + 2 * i))) (rest := []) (c_X_headAt l G nn (xup (xup (xup xYf 3 (some sHead)) 4 (some sHead)) 5 (some (sInts 81))) (xup (xup (xup I 3 f3) 4 f4) 5 f5) (by omega) (xYok_5 (xYok_4 (xYok_3 xYok_f _) _) _) i (by omega)) lk_X_headAt ml_X_124 (xm_obj (y0 (xYok_5 (xYok_4 (xYok_3 xYok_f _) _) _))) rfl rfl (Nat.le_of_ble_eq_true rfl) (xRok (d' := d - 1) (by omega) (by decide)) ⟨Nat.le_refl _, Nat.le_refl _⟩ d_X_roses_52 rfl ?_
            refine X_astore d_X_roses_55 (by decide) [1, 2, 3, 4, 5, 6, 0] (L' := [(0, .ref (xg G 0)), (1, .int (nI i)), (2, .int sp), (3, .int sec), (4, .int at_), (5, .int what), (6, .ref (xg G (17 + 2 * i)))]) rfl ?_
            refine X_aload_n d_X_roses_57 rfl rfl ?_
            refine X_aload d_X_roses_58 rfl ?_
            refine X_iload_n d_X_roses_60 rfl rfl ?_
            refine X_bipush (v := 10) d_X_roses_61 rfl ?_
            refine X_idiv d_X_roses_63 (by decide) ?_
            refine X_callVv (rest := []) (k_X_fillTurnedSenses l G nn I (by omega) hc tc ln S hK i (by omega) (sp / 10) f3 f4 f5 (I (17 + 2 * i)) hf3 hf4 rfl) lk_X_fillTurnedSenses ml_X_246 (xm_obj (y0 (xYok_5 (xYok_4 (xYok_3 xYok_f _) _) _))) rfl rfl (Nat.le_of_ble_eq_true rfl) (xRok (d' := d - 1) (by omega) (by decide)) ⟨Nat.le_refl _, Nat.le_refl _⟩ d_X_roses_64 rfl ?_
            refine X_iconst (v := 0) d_X_roses_67 rfl ?_
            refine X_istore d_X_roses_68 (by decide) [1, 2, 3, 4, 5, 6, 7, 0] (L' := [(0, .ref (xg G 0)), (1, .int (nI i)), (2, .int sp), (3, .int sec), (4, .int at_), (5, .int what), (6, .ref (xg G (17 + 2 * i))), (7, .int 0)]) rfl ?_
            refine X_iconst (v := 0) d_X_roses_70 rfl ?_
            refine X_istore d_X_roses_71 (by decide) [1, 2, 3, 4, 5, 6, 7, 8, 0] (L' := [(0, .ref (xg G 0)), (1, .int (nI i)), (2, .int sp), (3, .int sec), (4, .int at_), (5, .int what), (6, .ref (xg G (17 + 2 * i))), (7, .int 0), (8, .int 0)]) rfl ?_
            refine X_iconst (v := 0) d_X_roses_73 rfl ?_
            refine X_istore d_X_roses_74 (by decide) [1, 2, 3, 4, 5, 6, 7, 8, 9, 0] (L' := [(0, .ref (xg G 0)), (1, .int (nI i)), (2, .int sp), (3, .int sec), (4, .int at_), (5, .int what), (6, .ref (xg G (17 + 2 * i))), (7, .int 0), (8, .int 0), (9, .int 0)]) rfl ?_
            refine X_sub [0, 2, 3, 4, 5, 6, 7, 8, 9] (L' := [(0, .ref (xg G 0)), (2, .int sp), (3, .int sec), (4, .int at_), (5, .int what), (6, .ref (xg G (17 + 2 * i))), (7, .int 0), (8, .int 0), (9, .int 0)]) rfl ?_
            exact w_X_roses l G nn I (by omega) hc tc ln S hK i sp sec at_ what _ _ (by omega) (xin_nn c_3) _ 81 0 _ _ _ (hOK_ts _ _ (hOK_sd (hR _ (by omega))) _).1.2 (by omega) (by rw [sRoses_cong _ _ _ _ _ (tsR_81 _ _ _ _) 81 0 _ _ (by omega)]; first | (simp [aRoses, c_1, nI_cl (show i < 2 ^ 31 by omega), c_2, c_3, c_4, c_5]; done) | (clear hTs hR hK; simp_all [aRoses, nI_cl (show i < 2 ^ 31 by omega)]; done))
          ·
            refine X_ldc cs_X_149 d_X_roses_47 ?_
            exact X_iret rfl (congrArg (fun q => some (Value.int q)) (by first | (simp [aRoses, c_1, nI_cl (show i < 2 ^ 31 by omega), c_2, c_3, c_4, c_5, xl_1_0, xl_1_1, xl_2_0, xl_2_1, xl_2_2, xl_3_0, xl_3_1, xl_3_2, xl_3_3]; done) | (exfalso; simp_all; done) | (clear hTs hR hK; simp_all [aRoses, nI_cl (show i < 2 ^ 31 by omega)]; done))) (xle_rf _) d_X_roses_49
  ·
    refine X_ldc cs_X_139 d_X_roses_8 ?_
    exact X_iret rfl (congrArg (fun q => some (Value.int q)) (by first | (simp [aRoses, c_1, xl_1_0, xl_1_1, xl_2_0, xl_2_1, xl_2_2, xl_3_0, xl_3_1, xl_3_2, xl_3_3]; done) | (exfalso; simp_all; done) | (clear hTs hR hK; simp_all [aRoses]; done))) (xle_rf _) d_X_roses_10
def sTurned (L : xSay) (pace : Int32) (cl : Nat → Int32) (sz : Nat) (f g : Nat → Int32) : Nat → Nat → Int32 → Int32 → Int32 × Int32
  | 0, _, many, first => (many, first)
  | k + 1, i, many, first => if (sFO L pace cl sz 0 (xup (hStd f) 2 (g i))).1 < 0 then sTurned L pace cl sz f g k (i + 1) (many + 1) (if many = 0 then xta (nI i) else first) else sTurned L pace cl sz f g k (i + 1) many first
theorem sTurned_cong (L : xSay) (pace : Int32) (cl : Nat → Int32) (sz : Nat) (f : Nat → Int32) {g g2 : Nat → Int32} {n : Nat} (hg : ∀ j, j < n → g j = g2 j) : ∀ (k i : Nat) (best least : Int32), i + k = n → sTurned L pace cl sz f g k i best least = sTurned L pace cl sz f g2 k i best least
  | 0, _, _, _, _ => rfl
  | k + 1, i, best, least, h => by
    rw [sTurned, sTurned, hg i (by omega), sTurned_cong L pace cl sz f hg k (i + 1) _ _ (by omega), sTurned_cong L pace cl sz f hg k (i + 1) _ _ (by omega)]
def aTurned (hc : Nat) (L : xSay) (R : Nat → Nat → Int32) (srt : Nat → Int32) (sz : Nat → Nat) (cl : Nat → Nat → Int32) (s h sp what : Int32) : Int32 := if rTold hc srt s h = 0 then (if xsp sp = true ∧ xin what 0 1 = true then rUndo what (sTurned L (sp - sp / 10 * 10) (cl s.toNatClampNeg) (sz s.toNatClampNeg) (R h.toNatClampNeg) (tsV L (sp / 10) (hStd (R h.toNatClampNeg))) 81 0 0 (-100)) else -7) else rTold hc srt s h
def Q_X_turned (l : Launch) (G : xG) (d nn : Nat) (I : xI) (ln : Nat) (S : Nat → xSay) (q : Nat) (e : Nat) (sp : Int32) (what : Int32) (b : Nat → Int32) (g : Nat → Int32) (r : Int32) (j : Nat) (many : Int32) (first : Int32) (a : Nat → Int32) : Prop := XW l G (xR d 0 0) y_X_turned b_X_turned 10 (some .int) xK0 (xZ G nn (xm G xYf (I)) (some (.int r)) 0 0) nn (xm G (xup (xup (xup xYf 3 (some sHead)) 4 (some sHead)) 5 (some (sInts 81))) (xup (xup (xup I 3 a) 4 b) 5 g)) 0 0 63 [(0, .ref (xg G 0)), (1, .int (nI q)), (3, .int sp), (4, .int what), (6, .ref (xg G (17 + 2 * e))), (7, .int many), (8, .int first), (9, .int (nI j))] []
theorem w_X_turned (l : Launch) (G : xG) {d : Nat} (nn : Nat) (I : xI) (hd : 10 ≤ d) (hc tc ln : Nat) (S : Nat → xSay) (hK : cOK I hc tc ln S) (sz : Nat → Nat) (hsz : sOK I sz) (q : Nat) (e : Nat) (sp : Int32) (what : Int32) (b : Nat → Int32) (g : Nat → Int32) (hq : q < 4) (he : e < 5) (r : Int32) : ∀ (k j : Nat) (many : Int32) (first : Int32) (a : Nat → Int32) (hy_a : hZ a), j + k = 81 → r = rUndo what (sTurned (S ln) (sp - sp / 10 * 10) (I (51 + 2 * q + 1)) (sz q) (I (17 + 2 * e)) g k j many first) → Q_X_turned l G d nn I ln S q e sp what b g r j many first a := by
  obtain ⟨⟨h10, h5⟩, ⟨h11, h6⟩, ⟨h12, hl⟩, hTs, hR⟩ := id hK
  intro k
  induction k with
  | zero =>
    intro j many first a hy_a hk hr
    unfold Q_X_turned
    refine X_iload d_X_turned_63 rfl ?_
    refine X_aload_n d_X_turned_65 rfl rfl ?_
    refine X_getR (r := 5) fg_X_26 (y0 (xYok_5 (xYok_4 (xYok_3 xYok_f _) _) _)) rfl d_X_turned_66 ?_
    refine X_alenI (v := 81) (show (xup (xup (xup xYf 3 (some sHead)) 4 (some sHead)) 5 (some (sInts 81))) 5 = some (sInts 81) from rfl) rfl d_X_turned_69 ?_
    refine X_icmp_ge (tgt := 139) d_X_turned_70 (by decide) (fun _ => ?_) (fun c_1 => absurd c_1 (not_not_intro (show nI 81 ≤ nI j from nI_le (by omega) (by omega))))
    refine X_iload d_X_turned_139 rfl ?_
    refine X_if_ne (tgt := 149) d_X_turned_141 (by decide) (fun c_2 => ?_) (fun c_2 => ?_)
    ·
      refine X_iload d_X_turned_149 rfl ?_
      exact X_iret rfl (congrArg (fun q => some (Value.int q)) (by rw [hr]; first | (simp [sTurned, rUndo, c_2]; done) | simp_all [sTurned, rUndo])) (xle_345 (fun k hk hk4 hk5 => by simp only [xw_row _ _ _ hk5, xup_n _ _ hk, xup_n _ _ hk4, xup_n _ _ hk5])) d_X_turned_151
    ·
      refine X_iload d_X_turned_144 rfl ?_
      refine X_goto (tgt := 151) d_X_turned_146 (by decide) ?_
      exact X_iret rfl (congrArg (fun q => some (Value.int q)) (by rw [hr]; first | (simp [sTurned, rUndo, c_2]; done) | simp_all [sTurned, rUndo])) (xle_345 (fun k hk hk4 hk5 => by simp only [xw_row _ _ _ hk5, xup_n _ _ hk, xup_n _ _ hk4, xup_n _ _ hk5])) d_X_turned_151
  | succ k ih =>
    intro j many first a hy_a hk hr
    unfold Q_X_turned
    refine X_iload d_X_turned_63 rfl ?_
    refine X_aload_n d_X_turned_65 rfl rfl ?_
    refine X_getR (r := 5) fg_X_26 (y0 (xYok_5 (xYok_4 (xYok_3 xYok_f _) _) _)) rfl d_X_turned_66 ?_
    refine X_alenI (v := 81) (show (xup (xup (xup xYf 3 (some sHead)) 4 (some sHead)) 5 (some (sInts 81))) 5 = some (sInts 81) from rfl) rfl d_X_turned_69 ?_
    refine X_icmp_ge (tgt := 139) d_X_turned_70 (by decide) (fun c_1 => absurd c_1 (show ¬ nI 81 ≤ nI j from nI_ge (by omega) (by omega))) (fun _ => ?_)
    refine X_aload_n d_X_turned_73 rfl rfl ?_
    refine X_aload d_X_turned_74 rfl ?_
    refine X_callVv (rest := []) (k_X_think l G nn (xup (xup (xup xYf 3 (some sHead)) 4 (some sHead)) 5 (some (sInts 81))) (xup (xup (xup I 3 a) 4 b) 5 g) (by omega) (xYok_5 (xYok_4 (xYok_3 xYok_f _) _) _) (show (xup (xup (xup xYf 3 (some sHead)) 4 (some sHead)) 5 (some (sInts 81))) 3 = some sHead from rfl) (17 + 2 * e) (yH (xYok_5 (xYok_4 (xYok_3 xYok_f _) _) _) (show e < 5 by omega)) (by omega) a (I (17 + 2 * e)) ((xup_n _ _ (by decide)).trans ((xup_n _ _ (by decide)).trans (xup_s _ _ _))) ((xup_n _ _ (by omega)).trans ((xup_n _ _ (by omega)).trans (xup_n _ _ (by omega)))) (hR _ (by omega)) hy_a) lk_X_think ml_X_205 (xm_obj (y0 (xYok_5 (xYok_4 (xYok_3 xYok_f _) _) _))) rfl rfl (Nat.le_of_ble_eq_true rfl) (xRok (d' := d - 1) (by omega) (by decide)) ⟨Nat.le_refl _, Nat.le_refl _⟩ d_X_turned_76 rfl ?_
    rw [xup_abca _ _ _ _ _ (show (4 : Nat) ≠ 3 from (by decide)) (show (5 : Nat) ≠ 3 from (by decide))]
    refine X_aload_n d_X_turned_79 rfl rfl ?_
    refine X_getR (r := 3) fg_X_19 (y0 (xYok_5 (xYok_4 (xYok_3 xYok_f _) _) _)) rfl d_X_turned_80 ?_
    refine X_aload_n d_X_turned_83 rfl rfl ?_
    refine X_getR (r := 5) fg_X_26 (y0 (xYok_5 (xYok_4 (xYok_3 xYok_f _) _) _)) rfl d_X_turned_84 ?_
    refine X_iload d_X_turned_87 rfl ?_
    refine X_aldI (v := g j) (show (xup (xup (xup xYf 3 (some sHead)) 4 (some sHead)) 5 (some (sInts 81))) 5 = some (sInts 81) from rfl) (vp_in_nI (show j < 81 by omega) (by decide)) ((by rw [nI_cl (show j < 2 ^ 31 by omega)]; exact congrFun (xup_s _ _ _) _)) d_X_turned_89 ?_
    refine X_putI fp_X_140 (show (xup (xup (xup xYf 3 (some sHead)) 4 (some sHead)) 5 (some (sInts 81))) 3 = some sHead from rfl) rfl d_X_turned_90 ?_
    rw [xw_recab _ _ _ _ (show (4 : Nat) ≠ 3 from (by decide)) (show (5 : Nat) ≠ 3 from (by decide))]
    refine X_aload_n d_X_turned_93 rfl rfl ?_
    refine X_aload_n d_X_turned_94 rfl rfl ?_
    refine X_iload_n d_X_turned_95 rfl rfl ?_
    refine X_callV (v := .ref (xg G (51 + 2 * q))) (rest := [.ref (xg G 0)]) (c_X_sheetAt l G nn (xup (xup (xup xYf 3 (some sHead)) 4 (some sHead)) 5 (some (sInts 81))) (xup (xup (xup I 3 (xup (hStd (I (17 + 2 * e))) 2 (g j))) 4 b) 5 g) (by omega) (xYok_5 (xYok_4 (xYok_3 xYok_f _) _) _) q (by omega)) lk_X_sheetAt ml_X_256 (xm_obj (y0 (xYok_5 (xYok_4 (xYok_3 xYok_f _) _) _))) rfl rfl (Nat.le_of_ble_eq_true rfl) (xRok (d' := d - 1) (by omega) (by decide)) ⟨Nat.le_refl _, Nat.le_refl _⟩ d_X_turned_96 rfl ?_
    refine X_aload_n d_X_turned_99 rfl rfl ?_
    refine X_callV (v := .ref (xg G (27 + 4 * ln))) (rest := [.ref (xg G (51 + 2 * q)), .ref (xg G 0)]) (c_X_law l G nn (xup (xup (xup xYf 3 (some sHead)) 4 (some sHead)) 5 (some (sInts 81))) (xup (xup (xup I 3 (xup (hStd (I (17 + 2 * e))) 2 (g j))) 4 b) 5 g) (by omega) (xYok_5 (xYok_4 (xYok_3 xYok_f _) _) _) ln (by omega) ((congrFun (xup_n _ _ (by decide)) _).trans ((congrFun (xup_n _ _ (by decide)) _).trans ((congrFun (xup_n _ _ (by decide)) _).trans (h12))))) lk_X_law ml_X_120 (xm_obj (y0 (xYok_5 (xYok_4 (xYok_3 xYok_f _) _) _))) rfl rfl (Nat.le_of_ble_eq_true rfl) (xRok (d' := d - 1) (by omega) (by decide)) ⟨Nat.le_refl _, Nat.le_refl _⟩ d_X_turned_100 rfl ?_
    refine X_iload_n d_X_turned_103 rfl rfl ?_
    refine X_bipush (v := 10) d_X_turned_104 rfl ?_
    refine X_irem d_X_turned_106 (by decide) ?_
    refine X_callV (v := .int ((sFO (S ln) (sp - sp / 10 * 10) (I (51 + 2 * q + 1)) (sz q) 0 (xup (hStd (I (17 + 2 * e))) 2 (g j))).1)) (rest := []) (k_X_firstOtherwise l G nn (xup (xup (xup xYf 3 (some sHead)) 4 (some sHead)) 5 (some (sInts 81))) (xup (xup (xup I 3 (xup (hStd (I (17 + 2 * e))) 2 (g j))) 4 b) 5 g) (by omega) (xYok_5 (xYok_4 (xYok_3 xYok_f _) _) _) (show (xup (xup (xup xYf 3 (some sHead)) 4 (some sHead)) 5 (some (sInts 81))) 3 = some sHead from rfl) q (27 + 4 * ln) (by omega) (sz q) ((congrFun (xup_n _ _ (by omega)) _).trans ((congrFun (xup_n _ _ (by omega)) _).trans ((congrFun (xup_n _ _ (by omega)) _).trans ((hsz q (by omega)).1)))) (hsz q (by omega)).2 (S ln) (xTx_upA (xTx_up (xTx_up (xTx_Y (xYok_5 (xYok_4 (xYok_3 xYok_f _) _) _) (show ln < 6 by omega) (hTs ln hl)) (show (xup (xup (xup xYf 3 (some sHead)) 4 (some sHead)) 5 (some (sInts 81))) 3 = some sHead from rfl)) (show (xup (xup (xup xYf 3 (some sHead)) 4 (some sHead)) 5 (some (sInts 81))) 4 = some sHead from rfl)) (by omega) (by omega) (by omega)) (sp - sp / 10 * 10) (xup (hStd (I (17 + 2 * e))) 2 (g j)) (I (51 + 2 * q + 1)) ((xup_n _ _ (by decide)).trans ((xup_n _ _ (by decide)).trans (xup_s _ _ _))) ((xup_n _ _ (by omega)).trans ((xup_n _ _ (by omega)).trans (xup_n _ _ (by omega))))) lk_X_firstOtherwise ml_X_260 (xm_obj (y0 (xYok_5 (xYok_4 (xYok_3 xYok_f _) _) _))) rfl rfl (Nat.le_of_ble_eq_true rfl) (xRok (d' := d - 1) (by omega) (by decide)) ⟨Nat.le_refl _, Nat.le_refl _⟩ d_X_turned_107 rfl ?_
    rw [xup_abca _ _ _ _ _ (show (4 : Nat) ≠ 3 from (by decide)) (show (5 : Nat) ≠ 3 from (by decide))]
    refine X_if_ge (tgt := 133) d_X_turned_110 (by decide) (fun c_2 => ?_) (fun c_2 => ?_)
    ·
      refine X_iinc d_X_turned_133 rfl (v := (nI j) + 1) rfl (by decide) [1, 2, 3, 4, 5, 6, 7, 0] (L' := [(0, .ref (xg G 0)), (1, .int (nI q)), (3, .int sp), (4, .int what), (6, .ref (xg G (17 + 2 * e))), (7, .int many), (8, .int first), (9, .int ((nI j) + 1))]) rfl ?_
      refine X_goto (tgt := 63) d_X_turned_136 (by decide) ?_
      simp only [nI_1]
      exact ih (j + 1) _ _ _ (hOK_FO _ _ _ _ _ (hOK_up (hOK_sd (hR _ (by omega))) (by decide) _)).2 (by omega) (by rw [hr]; simp [sTurned, rUndo, c_2, Int32.not_lt.mpr c_2])
    ·
      refine X_iload d_X_turned_113 rfl ?_
      refine X_if_ne (tgt := 126) d_X_turned_115 (by decide) (fun c_3 => ?_) (fun c_3 => ?_)
      ·
        refine X_iload d_X_turned_126 rfl ?_
        refine X_istore d_X_turned_128 (by decide) [1, 2, 3, 4, 5, 6, 0, 7] (L' := [(0, .ref (xg G 0)), (1, .int (nI q)), (3, .int sp), (4, .int what), (6, .ref (xg G (17 + 2 * e))), (7, .int many), (8, .int first), (9, .int (nI j))]) rfl ?_
        refine X_iinc d_X_turned_130 rfl (v := many + 1) rfl (by decide) [1, 2, 3, 4, 5, 0, 6, 7] (L' := [(0, .ref (xg G 0)), (1, .int (nI q)), (3, .int sp), (4, .int what), (6, .ref (xg G (17 + 2 * e))), (7, .int (many + 1)), (8, .int first), (9, .int (nI j))]) rfl ?_
        refine X_iinc d_X_turned_133 rfl (v := (nI j) + 1) rfl (by decide) [1, 2, 3, 4, 5, 6, 7, 0] (L' := [(0, .ref (xg G 0)), (1, .int (nI q)), (3, .int sp), (4, .int what), (6, .ref (xg G (17 + 2 * e))), (7, .int (many + 1)), (8, .int first), (9, .int ((nI j) + 1))]) rfl ?_
        refine X_goto (tgt := 63) d_X_turned_136 (by decide) ?_
        simp only [nI_1]
        exact ih (j + 1) _ _ _ (hOK_FO _ _ _ _ _ (hOK_up (hOK_sd (hR _ (by omega))) (by decide) _)).2 (by omega) (by rw [hr]; simp [sTurned, rUndo, c_2, Int32.not_le.mp c_2, c_3])
      ·
        refine X_iload d_X_turned_118 rfl ?_
        refine X_callS (v := .int (xta (nI j))) (rest := []) (c_X_turnsAt l G nn _ (by omega) (nI j)) lk_X_turnsAt ml_X_250 rfl (Nat.le_of_ble_eq_true rfl) (xRok (d' := d - 1) (by omega) (by decide)) ⟨Nat.le_refl _, Nat.le_refl _⟩ d_X_turned_120 rfl ?_
        refine X_goto (tgt := 128) d_X_turned_123 (by decide) ?_
        refine X_istore d_X_turned_128 (by decide) [1, 2, 3, 4, 5, 6, 0, 7] (L' := [(0, .ref (xg G 0)), (1, .int (nI q)), (3, .int sp), (4, .int what), (6, .ref (xg G (17 + 2 * e))), (7, .int many), (8, .int (xta (nI j))), (9, .int (nI j))]) rfl ?_
        refine X_iinc d_X_turned_130 rfl (v := many + 1) rfl (by decide) [1, 2, 3, 4, 5, 0, 6, 7] (L' := [(0, .ref (xg G 0)), (1, .int (nI q)), (3, .int sp), (4, .int what), (6, .ref (xg G (17 + 2 * e))), (7, .int (many + 1)), (8, .int (xta (nI j))), (9, .int (nI j))]) rfl ?_
        refine X_iinc d_X_turned_133 rfl (v := (nI j) + 1) rfl (by decide) [1, 2, 3, 4, 5, 6, 7, 0] (L' := [(0, .ref (xg G 0)), (1, .int (nI q)), (3, .int sp), (4, .int what), (6, .ref (xg G (17 + 2 * e))), (7, .int (many + 1)), (8, .int (xta (nI j))), (9, .int ((nI j) + 1))]) rfl ?_
        refine X_goto (tgt := 63) d_X_turned_136 (by decide) ?_
        simp only [nI_1]
        exact ih (j + 1) _ _ _ (hOK_FO _ _ _ _ _ (hOK_up (hOK_sd (hR _ (by omega))) (by decide) _)).2 (by omega) (by rw [hr]; simp [sTurned, rUndo, c_2, Int32.not_le.mp c_2, c_3])
theorem c_X_turned (l : Launch) (G : xG) {d : Nat} (nn : Nat) (I : xI) (hd : 12 ≤ d) (hc tc ln : Nat) (S : Nat → xSay) (hK : cOK I hc tc ln S) (sz : Nat → Nat) (hsz : sOK I sz) (s h sp what : Int32) : XM l G d y_X_turned b_X_turned 10 (some .int) 0 0 xK0 [.ref (xg G 0), .int s, .int h, .int sp, .int what] nn (xm G xYf I) (some (.int (aTurned hc (S ln) (fun i => I (17 + 2 * i)) (fun q => I (51 + 2 * q) 1) sz (fun q => I (51 + 2 * q + 1)) s h sp what))) nn (xm G xYf (I)) := by
  obtain ⟨⟨h10, h5⟩, ⟨h11, h6⟩, ⟨h12, hl⟩, hTs, hR⟩ := id hK
  refine XM.of (by decide) (Nat.le_of_ble_eq_true rfl) (L := [(0, .ref (xg G 0)), (1, .int s), (2, .int h), (3, .int sp), (4, .int what)]) rfl ?_
  refine X_aload_n d_X_turned_0 rfl rfl ?_
  refine X_iload_n d_X_turned_1 rfl rfl ?_
  refine X_iload_n d_X_turned_2 rfl rfl ?_
  refine X_callV (v := .int (rTold hc (fun q => I (51 + 2 * q) 1) s h)) (rest := []) (c_X_refusalOfTold l G nn I (by omega) hc tc ln S hK s h) lk_X_refusalOfTold ml_X_253 (xm_obj (y0 xYok_f)) rfl rfl (Nat.le_of_ble_eq_true rfl) (xRok (d' := d - 1) (by omega) (by decide)) ⟨Nat.le_refl _, Nat.le_refl _⟩ d_X_turned_3 rfl ?_
  refine X_istore d_X_turned_6 (by decide) [1, 2, 3, 4, 5, 0] (L' := [(0, .ref (xg G 0)), (1, .int s), (2, .int h), (3, .int sp), (4, .int what), (5, .int (rTold hc (fun q => I (51 + 2 * q) 1) s h))]) rfl ?_
  refine X_iload d_X_turned_8 rfl ?_
  refine X_if_eq (tgt := 16) d_X_turned_10 (by decide) (fun c_1 => ?_) (fun c_1 => ?_)
  ·
    obtain ⟨q, i, hq, hi, rfl, rfl, hsq⟩ := rTold_ok h5 c_1
    refine X_knowH (a := 3) rfl (fun f3 hf3 => ?_)
    refine X_knowH (a := 4) rfl (fun f4 hf4 => ?_)
    refine X_knowI (a := 5) (by decide) rfl (fun f5 => ?_)
    refine X_iload_n d_X_turned_16 rfl rfl ?_
    refine X_callS (v := .int (xb (xsp sp))) (rest := []) (c_X_isSpeedPace l G nn _ (by omega) sp) lk_X_isSpeedPace ml_X_241 rfl (Nat.le_of_ble_eq_true rfl) (xRok (d' := d - 1) (by omega) (by decide)) ⟨Nat.le_refl _, Nat.le_refl _⟩ d_X_turned_17 rfl ?_
    refine X_ifb_eq (tgt := 33) d_X_turned_20 (by decide) (fun c_2 => ?_) (fun c_2 => ?_)
    ·
      refine X_bipush (v := -7) d_X_turned_33 rfl ?_
      exact X_iret rfl (congrArg (fun q => some (Value.int q)) (by first | (simp [aTurned, c_1, nI_cl (show q < 2 ^ 31 by omega), nI_cl (show i < 2 ^ 31 by omega), c_2, xl_1_0, xl_1_1, xl_2_0, xl_2_1, xl_2_2, xl_3_0, xl_3_1, xl_3_2, xl_3_3]; done) | (exfalso; simp_all; done) | (clear hTs hR hK; simp_all [aTurned, nI_cl (show q < 2 ^ 31 by omega), nI_cl (show i < 2 ^ 31 by omega)]; done))) (xle_345 (fun k hk hk4 hk5 => by simp only [xw_row _ _ _ hk5, xup_n _ _ hk, xup_n _ _ hk4, xup_n _ _ hk5])) d_X_turned_35
    ·
      refine X_iload d_X_turned_23 rfl ?_
      refine X_iconst (v := 0) d_X_turned_25 rfl ?_
      refine X_iconst (v := 1) d_X_turned_26 rfl ?_
      refine X_callS (v := .int (xb (xin what 0 1))) (rest := []) (c_X_within l G nn _ (by omega) what 0 1) lk_X_within ml_X_105 rfl (Nat.le_of_ble_eq_true rfl) (xRok (d' := d - 1) (by omega) (by decide)) ⟨Nat.le_refl _, Nat.le_refl _⟩ d_X_turned_27 rfl ?_
      refine X_ifb_ne (tgt := 36) d_X_turned_30 (by decide) (fun c_3 => ?_) (fun c_3 => ?_)
      ·
        refine X_aload_n d_X_turned_36 rfl rfl ?_
        refine X_iload_n d_X_turned_37 rfl rfl ?_
        refine X_callV (v := .ref (xg G (17 + 2 * i))) (rest := []) (c_X_headAt l G nn (xup (xup (xup xYf 3 (some sHead)) 4 (some sHead)) 5 (some (sInts 81))) (xup (xup (xup I 3 f3) 4 f4) 5 f5) (by omega) (xYok_5 (xYok_4 (xYok_3 xYok_f _) _) _) i (by omega)) lk_X_headAt ml_X_124 (xm_obj (y0 (xYok_5 (xYok_4 (xYok_3 xYok_f _) _) _))) rfl rfl (Nat.le_of_ble_eq_true rfl) (xRok (d' := d - 1) (by omega) (by decide)) ⟨Nat.le_refl _, Nat.le_refl _⟩ d_X_turned_38 rfl ?_
        refine X_astore d_X_turned_41 (by decide) [1, 2, 3, 4, 5, 6, 0] (L' := [(0, .ref (xg G 0)), (1, .int (nI q)), (2, .int (nI i)), (3, .int sp), (4, .int what), (5, .int (rTold hc (fun q => I (51 + 2 * q) 1) (nI q) (nI i))), (6, .ref (xg G (17 + 2 * i)))]) rfl ?_
        refine X_aload_n d_X_turned_43 rfl rfl ?_
        refine X_aload d_X_turned_44 rfl ?_
        refine X_iload_n d_X_turned_46 rfl rfl ?_
        refine X_bipush (v := 10) d_X_turned_47 rfl ?_
        refine X_idiv d_X_turned_49 (by decide) ?_
        refine X_callVv (rest := []) (k_X_fillTurnedSenses l G nn I (by omega) hc tc ln S hK i (by omega) (sp / 10) f3 f4 f5 (I (17 + 2 * i)) hf3 hf4 rfl) lk_X_fillTurnedSenses ml_X_246 (xm_obj (y0 (xYok_5 (xYok_4 (xYok_3 xYok_f _) _) _))) rfl rfl (Nat.le_of_ble_eq_true rfl) (xRok (d' := d - 1) (by omega) (by decide)) ⟨Nat.le_refl _, Nat.le_refl _⟩ d_X_turned_50 rfl ?_
        refine X_iconst (v := 0) d_X_turned_53 rfl ?_
        refine X_istore d_X_turned_54 (by decide) [1, 2, 3, 4, 5, 6, 7, 0] (L' := [(0, .ref (xg G 0)), (1, .int (nI q)), (2, .int (nI i)), (3, .int sp), (4, .int what), (5, .int (rTold hc (fun q => I (51 + 2 * q) 1) (nI q) (nI i))), (6, .ref (xg G (17 + 2 * i))), (7, .int 0)]) rfl ?_
        refine X_bipush (v := -100) d_X_turned_56 rfl ?_
        refine X_istore d_X_turned_58 (by decide) [1, 2, 3, 4, 5, 6, 7, 8, 0] (L' := [(0, .ref (xg G 0)), (1, .int (nI q)), (2, .int (nI i)), (3, .int sp), (4, .int what), (5, .int (rTold hc (fun q => I (51 + 2 * q) 1) (nI q) (nI i))), (6, .ref (xg G (17 + 2 * i))), (7, .int 0), (8, .int (-100))]) rfl ?_
        refine X_iconst (v := 0) d_X_turned_60 rfl ?_
        refine X_istore d_X_turned_61 (by decide) [1, 2, 3, 4, 5, 6, 7, 8, 9, 0] (L' := [(0, .ref (xg G 0)), (1, .int (nI q)), (2, .int (nI i)), (3, .int sp), (4, .int what), (5, .int (rTold hc (fun q => I (51 + 2 * q) 1) (nI q) (nI i))), (6, .ref (xg G (17 + 2 * i))), (7, .int 0), (8, .int (-100)), (9, .int 0)]) rfl ?_
        refine X_sub [0, 1, 3, 4, 6, 7, 8, 9] (L' := [(0, .ref (xg G 0)), (1, .int (nI q)), (3, .int sp), (4, .int what), (6, .ref (xg G (17 + 2 * i))), (7, .int 0), (8, .int (-100)), (9, .int 0)]) rfl ?_
        exact w_X_turned l G nn I (by omega) hc tc ln S hK sz hsz q i sp what _ _ hq (by omega) _ 81 0 _ _ _ (hOK_ts _ _ (hOK_sd (hR _ (by omega))) _).1.2 (by omega) (by rw [sTurned_cong _ _ _ _ _ (tsR_81 _ _ _ _) 81 0 _ _ (by omega)]; first | (simp [aTurned, c_1, nI_cl (show q < 2 ^ 31 by omega), nI_cl (show i < 2 ^ 31 by omega), c_2, c_3]; done) | (clear hTs hR hK; simp_all [aTurned, nI_cl (show i < 2 ^ 31 by omega), nI_cl (show q < 2 ^ 31 by omega)]; done))
      ·
        refine X_bipush (v := -7) d_X_turned_33 rfl ?_
        exact X_iret rfl (congrArg (fun q => some (Value.int q)) (by first | (simp [aTurned, c_1, nI_cl (show q < 2 ^ 31 by omega), nI_cl (show i < 2 ^ 31 by omega), c_2, c_3, xl_1_0, xl_1_1, xl_2_0, xl_2_1, xl_2_2, xl_3_0, xl_3_1, xl_3_2, xl_3_3]; done) | (exfalso; simp_all; done) | (clear hTs hR hK; simp_all [aTurned, nI_cl (show q < 2 ^ 31 by omega), nI_cl (show i < 2 ^ 31 by omega)]; done))) (xle_345 (fun k hk hk4 hk5 => by simp only [xw_row _ _ _ hk5, xup_n _ _ hk, xup_n _ _ hk4, xup_n _ _ hk5])) d_X_turned_35
  ·
    refine X_iload d_X_turned_13 rfl ?_
    exact X_iret rfl (congrArg (fun q => some (Value.int q)) (by first | (simp [aTurned, c_1, xl_1_0, xl_1_1, xl_2_0, xl_2_1, xl_2_2, xl_3_0, xl_3_1, xl_3_2, xl_3_3]; done) | (exfalso; simp_all; done) | (clear hTs hR hK; simp_all [aTurned]; done))) (xle_rf _) d_X_turned_15
