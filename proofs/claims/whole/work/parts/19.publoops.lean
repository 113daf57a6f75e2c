def sStands (L : xSay) (speed : Int32) : Nat → Nat → Int32 → (Nat → Int32) → Int32
  | 0, _, g, _ => g
  | k + 1, n, g, f => sStands L speed k (n + 1) (if hMust (hSpin1 L speed 1 f) = true then g else nI n) (hSpin1 L speed 1 f)
def aStands (hc : Nat) (L : xSay) (R : Nat → Nat → Int32) (h sp : Int32) : Int32 := if xin h 0 (nI hc - 1) = true then (if xin sp 1 9 = true then sStands L sp 40 1 0 (hStd (R h.toNatClampNeg)) else -100007) else -100005
def Q_X_stands (l : Launch) (G : xG) (d nn : Nat) (I : xI) (ln : Nat) (S : Nat → xSay) (speed : Int32) (r : Int32) (n : Nat) (g : Int32) (f : Nat → Int32) : Prop := XW l G (xR d 0 0) y_X_stands b_X_stands 5 (some .int) xK0 (xZ G nn (xm G xYf (I)) (some (.int r)) 0 0) nn (xm G (xup xYf 3 (some sHead)) (xup I 3 f)) 0 0 35 [(0, .ref (xg G 0)), (2, .int speed), (3, .int g), (4, .int (nI n))] []
theorem w_X_stands (l : Launch) (G : xG) {d : Nat} (nn : Nat) (I : xI) (hd : 10 ≤ d) (hc tc ln : Nat) (S : Nat → xSay) (hK : cOK I hc tc ln S) (speed : Int32)  (r : Int32) : ∀ (k n : Nat) (g : Int32) (f : Nat → Int32) (hz_f : hOK f), n + k = 41 → r = sStands (S ln) speed k n g f → Q_X_stands l G d nn I ln S speed r n g f := by
  obtain ⟨⟨h10, h5⟩, ⟨h11, h6⟩, ⟨h12, hl⟩, hTs, hR⟩ := id hK
  intro k
  induction k with
  | zero =>
    intro n g f hz_f hk hr
    unfold Q_X_stands
    refine X_iload d_X_stands_35 rfl ?_
    refine X_bipush (v := 40) d_X_stands_37 rfl ?_
    refine X_icmp_gt (tgt := 74) d_X_stands_39 (by decide) (fun _ => ?_) (fun c_1 => absurd c_1 (not_not_intro (show nI 40 < nI n from nI_lt (by omega) (by omega))))
    refine X_iload_n d_X_stands_74 rfl rfl ?_
    exact X_iret rfl (congrArg (fun q => some (Value.int q)) (by rw [hr]; simp [sStands])) (xle_3 (fun k hk => by simp only [xup_n _ _ hk])) d_X_stands_75
  | succ k ih =>
    intro n g f hz_f hk hr
    unfold Q_X_stands
    refine X_iload d_X_stands_35 rfl ?_
    refine X_bipush (v := 40) d_X_stands_37 rfl ?_
    refine X_icmp_gt (tgt := 74) d_X_stands_39 (by decide) (fun c_1 => absurd c_1 (show ¬ nI 40 < nI n from nI_nlt (by omega) (by omega))) (fun _ => ?_)
    refine X_aload_n d_X_stands_42 rfl rfl ?_
    refine X_getR (r := 3) fg_X_19 (y0 (xYok_3 xYok_f _)) rfl d_X_stands_43 ?_
    refine X_aload_n d_X_stands_46 rfl rfl ?_
    refine X_callV (v := .ref (xg G (27 + 4 * ln))) (rest := [.ref (xg G 3)]) (c_X_law l G nn (xup xYf 3 (some sHead)) (xup I 3 f) (by omega) (xYok_3 xYok_f _) ln (by omega) ((congrFun (xup_n _ _ (by decide)) _).trans (h12))) lk_X_law ml_X_120 (xm_obj (y0 (xYok_3 xYok_f _))) rfl rfl (Nat.le_of_ble_eq_true rfl) (xRok (d' := d - 1) (by omega) (by decide)) ⟨Nat.le_refl _, Nat.le_refl _⟩ d_X_stands_47 rfl ?_
    refine X_iload_n d_X_stands_50 rfl rfl ?_
    refine X_iconst (v := 1) d_X_stands_51 rfl ?_
    refine X_callVv (rest := []) (k_Head_spinOnce l G nn (xup xYf 3 (some sHead)) (xup I 3 f) (by omega) 3 (show (xup xYf 3 (some sHead)) 3 = some sHead from rfl) (27 + 4 * ln) (S ln) (xTx_up (xTx_Y (xYok_3 xYok_f _) (show ln < 6 by omega) (hTs ln hl)) (show (xup xYf 3 (some sHead)) 3 = some sHead from rfl)) speed 1 f (xup_s _ _ _)) lk_Head_spinOnce ml_X_209 (xm_obj (show (xup xYf 3 (some sHead)) 3 = some sHead from rfl)) rfl rfl (Nat.le_of_ble_eq_true rfl) (xRok (d' := d - 1) (by omega) (by decide)) ⟨Nat.le_refl _, Nat.le_refl _⟩ d_X_stands_52 rfl ?_
    rw [xup_up]
    refine X_aload_n d_X_stands_55 rfl rfl ?_
    refine X_getR (r := 3) fg_X_19 (y0 (xYok_3 xYok_f _)) rfl d_X_stands_56 ?_
    refine X_callV (v := .int (xb (hMust (hSpin1 (S ln) speed 1 f)))) (rest := []) (k_Head_mustFall l G nn (xup xYf 3 (some sHead)) (xup I 3 (hSpin1 (S ln) speed 1 f)) (by omega) 3 (show (xup xYf 3 (some sHead)) 3 = some sHead from rfl)  (hSpin1 (S ln) speed 1 f) (xup_s _ _ _)) lk_Head_mustFall ml_X_212 (xm_obj (show (xup xYf 3 (some sHead)) 3 = some sHead from rfl)) rfl rfl (Nat.le_of_ble_eq_true rfl) (xRok (d' := d - 1) (by omega) (by decide)) ⟨Nat.le_refl _, Nat.le_refl _⟩ d_X_stands_59 rfl ?_
    refine X_ifb_ne (tgt := 68) d_X_stands_62 (by decide) (fun c_2 => ?_) (fun c_2 => ?_)
    ·
      refine X_iinc d_X_stands_68 rfl (v := (nI n) + 1) rfl (by decide) [1, 2, 3, 0] (L' := [(0, .ref (xg G 0)), (2, .int speed), (3, .int g), (4, .int ((nI n) + 1))]) rfl ?_
      refine X_goto (tgt := 35) d_X_stands_71 (by decide) ?_
      simp only [nI_1]
      exact ih (n + 1) _ _ (hOK_spin1 _ _ _ hz_f) (by omega) (by rw [hr]; simp [sStands, c_2])
    ·
      refine X_iload d_X_stands_65 rfl ?_
      refine X_istore_n d_X_stands_67 rfl (by decide) [1, 2, 0, 3] (L' := [(0, .ref (xg G 0)), (2, .int speed), (3, .int (nI n)), (4, .int (nI n))]) rfl ?_
      refine X_iinc d_X_stands_68 rfl (v := (nI n) + 1) rfl (by decide) [1, 2, 3, 0] (L' := [(0, .ref (xg G 0)), (2, .int speed), (3, .int (nI n)), (4, .int ((nI n) + 1))]) rfl ?_
      refine X_goto (tgt := 35) d_X_stands_71 (by decide) ?_
      simp only [nI_1]
      exact ih (n + 1) _ _ (hOK_spin1 _ _ _ hz_f) (by omega) (by rw [hr]; simp [sStands, c_2])
theorem c_X_stands (l : Launch) (G : xG) {d : Nat} (nn : Nat) (I : xI) (hd : 11 ≤ d) (hc tc ln : Nat) (S : Nat → xSay) (hK : cOK I hc tc ln S) (h sp : Int32) : XM l G d y_X_stands b_X_stands 5 (some .int) 0 0 xK0 [.ref (xg G 0), .int h, .int sp] nn (xm G xYf I) (some (.int (aStands hc (S ln) (fun i => I (17 + 2 * i)) h sp))) nn (xm G xYf (I)) := by
  obtain ⟨⟨h10, h5⟩, ⟨h11, h6⟩, ⟨h12, hl⟩, hTs, hR⟩ := id hK
  have hT : xTx xYf I (27 + 4 * ln) (S ln) := hTs ln hl
  refine XM.of (by decide) (Nat.le_of_ble_eq_true rfl) (L := [(0, .ref (xg G 0)), (1, .int h), (2, .int sp)]) rfl ?_
  refine X_knowH (a := 3) rfl (fun f3 hf3 => ?_)
  refine X_aload_n d_X_stands_0 rfl rfl ?_
  refine X_iload_n d_X_stands_1 rfl rfl ?_
  refine X_callV (v := .int (xb (xin h 0 (nI hc - 1)))) (rest := []) (c_X_isHead l G nn (xup xYf 3 (some sHead)) (xup I 3 f3) (by omega) (xYok_3 xYok_f _) h (nI hc) ((congrFun (xup_n _ _ (by decide)) _).trans (h10))) lk_X_isHead ml_X_113 (xm_obj (y0 (xYok_3 xYok_f _))) rfl rfl (Nat.le_of_ble_eq_true rfl) (xRok (d' := d - 1) (by omega) (by decide)) ⟨Nat.le_refl _, Nat.le_refl _⟩ d_X_stands_2 rfl ?_
  refine X_ifb_ne (tgt := 11) d_X_stands_5 (by decide) (fun c_1 => ?_) (fun c_1 => ?_)
  ·
    obtain ⟨i, hi, rfl⟩ := cHead h5 c_1
    refine X_iload_n d_X_stands_11 rfl rfl ?_
    refine X_callS (v := .int (xb (xin sp 1 9))) (rest := []) (c_X_isPace l G nn _ (by omega) sp) lk_X_isPace ml_X_172 rfl (Nat.le_of_ble_eq_true rfl) (xRok (d' := d - 1) (by omega) (by decide)) ⟨Nat.le_refl _, Nat.le_refl _⟩ d_X_stands_12 rfl ?_
    refine X_ifb_ne (tgt := 21) d_X_stands_15 (by decide) (fun c_2 => ?_) (fun c_2 => ?_)
    ·
      refine X_aload_n d_X_stands_21 rfl rfl ?_
      refine X_aload_n d_X_stands_22 rfl rfl ?_
      refine X_iload_n d_X_stands_23 rfl rfl ?_
      refine X_callV (v := .ref (xg G (17 + 2 * i))) (rest := [.ref (xg G 0)]) (c_X_headAt l G nn (xup xYf 3 (some sHead)) (xup I 3 f3) (by omega) (xYok_3 xYok_f _) i (by omega)) lk_X_headAt ml_X_124 (xm_obj (y0 (xYok_3 xYok_f _))) rfl rfl (Nat.le_of_ble_eq_true rfl) (xRok (d' := d - 1) (by omega) (by decide)) ⟨Nat.le_refl _, Nat.le_refl _⟩ d_X_stands_24 rfl ?_
      refine X_callVv (rest := []) (k_X_think l G nn (xup xYf 3 (some sHead)) (xup I 3 f3) (by omega) (xYok_3 xYok_f _) (show (xup xYf 3 (some sHead)) 3 = some sHead from rfl) (17 + 2 * i) (yH (xYok_3 xYok_f _) (show i < 5 by omega)) (by omega) f3 (I (17 + 2 * i)) (xup_s _ _ _) (xup_n _ _ (by omega)) (hR _ (by omega)) hf3) lk_X_think ml_X_205 (xm_obj (y0 (xYok_3 xYok_f _))) rfl rfl (Nat.le_of_ble_eq_true rfl) (xRok (d' := d - 1) (by omega) (by decide)) ⟨Nat.le_refl _, Nat.le_refl _⟩ d_X_stands_27 rfl ?_
      rw [xup_up]
      refine X_iconst (v := 0) d_X_stands_30 rfl ?_
      refine X_istore_n d_X_stands_31 rfl (by decide) [1, 2, 3, 0] (L' := [(0, .ref (xg G 0)), (1, .int (nI i)), (2, .int sp), (3, .int 0)]) rfl ?_
      refine X_iconst (v := 1) d_X_stands_32 rfl ?_
      refine X_istore d_X_stands_33 (by decide) [1, 2, 3, 4, 0] (L' := [(0, .ref (xg G 0)), (1, .int (nI i)), (2, .int sp), (3, .int 0), (4, .int 1)]) rfl ?_
      refine X_sub [0, 2, 3, 4] (L' := [(0, .ref (xg G 0)), (2, .int sp), (3, .int 0), (4, .int 1)]) rfl ?_
      exact w_X_stands l G nn I (by omega) hc tc ln S hK sp _ 40 1 _ _ (hOK_sd (hR _ (by omega))) (by omega) (by simp [aStands, c_1, nI_cl (show i < 2 ^ 31 by omega), c_2])
    ·
      refine X_ldc cs_X_149 d_X_stands_18 ?_
      exact X_iret rfl (congrArg (fun q => some (Value.int q)) (by first | (simp [aStands, c_1, nI_cl (show i < 2 ^ 31 by omega), c_2, xl_1_0, xl_1_1, xl_2_0, xl_2_1, xl_2_2, xl_3_0, xl_3_1, xl_3_2, xl_3_3]; done) | (exfalso; simp_all; done) | (clear hTs hR hK; simp_all [aStands, nI_cl (show i < 2 ^ 31 by omega)]; done))) (xle_3 (fun k hk => by simp only [xup_n _ _ hk])) d_X_stands_20
  ·
    refine X_ldc cs_X_139 d_X_stands_8 ?_
    exact X_iret rfl (congrArg (fun q => some (Value.int q)) (by first | (simp [aStands, c_1, xl_1_0, xl_1_1, xl_2_0, xl_2_1, xl_2_2, xl_3_0, xl_3_1, xl_3_2, xl_3_3]; done) | (exfalso; simp_all; done) | (clear hTs hR hK; simp_all [aStands]; done))) (xle_3 (fun k hk => by simp only [xup_n _ _ hk])) d_X_stands_10
def sUndo (L : xSay) (sp sd : Int32) : Nat → Nat → Int32 → Int32 → (Nat → Int32) → Int32 × Int32
  | 0, _, few, least, _ => (few, least)
  | k + 1, n, few, least, f => if xabs (hSpin1 L sp sd f 2) < least then sUndo L sp sd k (n + 1) (nI n) (xabs (hSpin1 L sp sd f 2)) (hSpin1 L sp sd f) else sUndo L sp sd k (n + 1) few least (hSpin1 L sp sd f)
def rUndo (what : Int32) (p : Int32 × Int32) : Int32 := if what = 0 then p.1 else p.2
def aUndo (hc : Nat) (L : xSay) (R : Nat → Nat → Int32) (h sp what : Int32) : Int32 := if xin h 0 (nI hc - 1) = true then (if xin sp 1 9 = true ∧ xin what 0 1 = true then rUndo what (sUndo L sp (if 0 < hStd (R h.toNatClampNeg) 2 then -1 else 1) 40 1 0 (xabs (hStd (R h.toNatClampNeg) 2)) (hStd (R h.toNatClampNeg))) else -100007) else -100005
def Q_X_undo (l : Launch) (G : xG) (d nn : Nat) (I : xI) (ln : Nat) (S : Nat → xSay) (sp : Int32) (what : Int32) (sd : Int32) (r : Int32) (n : Nat) (few : Int32) (least : Int32) (f : Nat → Int32) : Prop := XW l G (xR d 0 0) y_X_undo b_X_undo 8 (some .int) xK0 (xZ G nn (xm G xYf (I)) (some (.int r)) 0 0) nn (xm G (xup xYf 3 (some sHead)) (xup I 3 f)) 0 0 74 [(0, .ref (xg G 0)), (2, .int sp), (3, .int what), (4, .int sd), (5, .int few), (6, .int least), (7, .int (nI n))] []
theorem w_X_undo (l : Launch) (G : xG) {d : Nat} (nn : Nat) (I : xI) (hd : 10 ≤ d) (hc tc ln : Nat) (S : Nat → xSay) (hK : cOK I hc tc ln S) (sp : Int32) (what : Int32) (sd : Int32)  (r : Int32) : ∀ (k n : Nat) (few : Int32) (least : Int32) (f : Nat → Int32) (hz_f : hOK f), n + k = 41 → r = rUndo what (sUndo (S ln) sp sd k n few least f) → Q_X_undo l G d nn I ln S sp what sd r n few least f := by
  obtain ⟨⟨h10, h5⟩, ⟨h11, h6⟩, ⟨h12, hl⟩, hTs, hR⟩ := id hK
  intro k
  induction k with
  | zero =>
    intro n few least f hz_f hk hr
    unfold Q_X_undo
    refine X_iload d_X_undo_74 rfl ?_
    refine X_bipush (v := 40) d_X_undo_76 rfl ?_
    refine X_icmp_gt (tgt := 132) d_X_undo_78 (by decide) (fun _ => ?_) (fun c_1 => absurd c_1 (not_not_intro (show nI 40 < nI n from nI_lt (by omega) (by omega))))
    refine X_iload_n d_X_undo_132 rfl rfl ?_
    refine X_if_ne (tgt := 141) d_X_undo_133 (by decide) (fun c_2 => ?_) (fun c_2 => ?_)
    ·
      refine X_iload d_X_undo_141 rfl ?_
      exact X_iret rfl (congrArg (fun q => some (Value.int q)) (by rw [hr]; simp [sUndo, rUndo, c_2])) (xle_3 (fun k hk => by simp only [xup_n _ _ hk])) d_X_undo_143
    ·
      refine X_iload d_X_undo_136 rfl ?_
      refine X_goto (tgt := 143) d_X_undo_138 (by decide) ?_
      exact X_iret rfl (congrArg (fun q => some (Value.int q)) (by rw [hr]; simp [sUndo, rUndo, c_2])) (xle_3 (fun k hk => by simp only [xup_n _ _ hk])) d_X_undo_143
  | succ k ih =>
    intro n few least f hz_f hk hr
    unfold Q_X_undo
    refine X_iload d_X_undo_74 rfl ?_
    refine X_bipush (v := 40) d_X_undo_76 rfl ?_
    refine X_icmp_gt (tgt := 132) d_X_undo_78 (by decide) (fun c_1 => absurd c_1 (show ¬ nI 40 < nI n from nI_nlt (by omega) (by omega))) (fun _ => ?_)
    refine X_aload_n d_X_undo_81 rfl rfl ?_
    refine X_getR (r := 3) fg_X_19 (y0 (xYok_3 xYok_f _)) rfl d_X_undo_82 ?_
    refine X_aload_n d_X_undo_85 rfl rfl ?_
    refine X_callV (v := .ref (xg G (27 + 4 * ln))) (rest := [.ref (xg G 3)]) (c_X_law l G nn (xup xYf 3 (some sHead)) (xup I 3 f) (by omega) (xYok_3 xYok_f _) ln (by omega) ((congrFun (xup_n _ _ (by decide)) _).trans (h12))) lk_X_law ml_X_120 (xm_obj (y0 (xYok_3 xYok_f _))) rfl rfl (Nat.le_of_ble_eq_true rfl) (xRok (d' := d - 1) (by omega) (by decide)) ⟨Nat.le_refl _, Nat.le_refl _⟩ d_X_undo_86 rfl ?_
    refine X_iload_n d_X_undo_89 rfl rfl ?_
    refine X_iload d_X_undo_90 rfl ?_
    refine X_callVv (rest := []) (k_Head_spinOnce l G nn (xup xYf 3 (some sHead)) (xup I 3 f) (by omega) 3 (show (xup xYf 3 (some sHead)) 3 = some sHead from rfl) (27 + 4 * ln) (S ln) (xTx_up (xTx_Y (xYok_3 xYok_f _) (show ln < 6 by omega) (hTs ln hl)) (show (xup xYf 3 (some sHead)) 3 = some sHead from rfl)) sp sd f (xup_s _ _ _)) lk_Head_spinOnce ml_X_209 (xm_obj (show (xup xYf 3 (some sHead)) 3 = some sHead from rfl)) rfl rfl (Nat.le_of_ble_eq_true rfl) (xRok (d' := d - 1) (by omega) (by decide)) ⟨Nat.le_refl _, Nat.le_refl _⟩ d_X_undo_92 rfl ?_
    rw [xup_up]
    refine X_aload_n d_X_undo_95 rfl rfl ?_
    refine X_getR (r := 3) fg_X_19 (y0 (xYok_3 xYok_f _)) rfl d_X_undo_96 ?_
    refine X_getI (v := (hSpin1 (S ln) sp sd f) 2) fg_X_140 (show (xup xYf 3 (some sHead)) 3 = some sHead from rfl) rfl (congrFun (xup_s _ _ _) _) d_X_undo_99 ?_
    refine X_mabsx ml_X_216 mt_abs mi_math mc_abs (xRm (by omega) (Nat.le_of_ble_eq_true rfl)) ⟨Nat.zero_le _, Nat.zero_le _⟩ d_X_undo_102 ?_
    refine X_iload d_X_undo_105 rfl ?_
    refine X_icmp_ge (tgt := 126) d_X_undo_107 (by decide) (fun c_2 => ?_) (fun c_2 => ?_)
    ·
      refine X_iinc d_X_undo_126 rfl (v := (nI n) + 1) rfl (by decide) [1, 2, 3, 4, 5, 6, 0] (L' := [(0, .ref (xg G 0)), (2, .int sp), (3, .int what), (4, .int sd), (5, .int few), (6, .int least), (7, .int ((nI n) + 1))]) rfl ?_
      refine X_goto (tgt := 74) d_X_undo_129 (by decide) ?_
      simp only [nI_1]
      exact ih (n + 1) _ _ _ (hOK_spin1 _ _ _ hz_f) (by omega) (by rw [hr]; simp [sUndo, rUndo, c_2, Int32.not_lt.mpr c_2])
    ·
      refine X_aload_n d_X_undo_110 rfl rfl ?_
      refine X_getR (r := 3) fg_X_19 (y0 (xYok_3 xYok_f _)) rfl d_X_undo_111 ?_
      refine X_getI (v := (hSpin1 (S ln) sp sd f) 2) fg_X_140 (show (xup xYf 3 (some sHead)) 3 = some sHead from rfl) rfl (congrFun (xup_s _ _ _) _) d_X_undo_114 ?_
      refine X_mabsx ml_X_216 mt_abs mi_math mc_abs (xRm (by omega) (Nat.le_of_ble_eq_true rfl)) ⟨Nat.zero_le _, Nat.zero_le _⟩ d_X_undo_117 ?_
      refine X_istore d_X_undo_120 (by decide) [1, 2, 3, 4, 5, 0, 6] (L' := [(0, .ref (xg G 0)), (2, .int sp), (3, .int what), (4, .int sd), (5, .int few), (6, .int (xabs ((hSpin1 (S ln) sp sd f) 2))), (7, .int (nI n))]) rfl ?_
      refine X_iload d_X_undo_122 rfl ?_
      refine X_istore d_X_undo_124 (by decide) [1, 2, 3, 4, 0, 5, 6] (L' := [(0, .ref (xg G 0)), (2, .int sp), (3, .int what), (4, .int sd), (5, .int (nI n)), (6, .int (xabs ((hSpin1 (S ln) sp sd f) 2))), (7, .int (nI n))]) rfl ?_
      refine X_iinc d_X_undo_126 rfl (v := (nI n) + 1) rfl (by decide) [1, 2, 3, 4, 5, 6, 0] (L' := [(0, .ref (xg G 0)), (2, .int sp), (3, .int what), (4, .int sd), (5, .int (nI n)), (6, .int (xabs ((hSpin1 (S ln) sp sd f) 2))), (7, .int ((nI n) + 1))]) rfl ?_
      refine X_goto (tgt := 74) d_X_undo_129 (by decide) ?_
      simp only [nI_1]
      exact ih (n + 1) _ _ _ (hOK_spin1 _ _ _ hz_f) (by omega) (by rw [hr]; simp [sUndo, rUndo, c_2, Int32.not_le.mp c_2])
theorem c_X_undo (l : Launch) (G : xG) {d : Nat} (nn : Nat) (I : xI) (hd : 11 ≤ d) (hc tc ln : Nat) (S : Nat → xSay) (hK : cOK I hc tc ln S) (h sp what : Int32) : XM l G d y_X_undo b_X_undo 8 (some .int) 0 0 xK0 [.ref (xg G 0), .int h, .int sp, .int what] nn (xm G xYf I) (some (.int (aUndo hc (S ln) (fun i => I (17 + 2 * i)) h sp what))) nn (xm G xYf (I)) := by
  obtain ⟨⟨h10, h5⟩, ⟨h11, h6⟩, ⟨h12, hl⟩, hTs, hR⟩ := id hK
  have hT : xTx xYf I (27 + 4 * ln) (S ln) := hTs ln hl
  refine XM.of (by decide) (Nat.le_of_ble_eq_true rfl) (L := [(0, .ref (xg G 0)), (1, .int h), (2, .int sp), (3, .int what)]) rfl ?_
  refine X_knowH (a := 3) rfl (fun f3 hf3 => ?_)
  refine X_aload_n d_X_undo_0 rfl rfl ?_
  refine X_iload_n d_X_undo_1 rfl rfl ?_
  refine X_callV (v := .int (xb (xin h 0 (nI hc - 1)))) (rest := []) (c_X_isHead l G nn (xup xYf 3 (some sHead)) (xup I 3 f3) (by omega) (xYok_3 xYok_f _) h (nI hc) ((congrFun (xup_n _ _ (by decide)) _).trans (h10))) lk_X_isHead ml_X_113 (xm_obj (y0 (xYok_3 xYok_f _))) rfl rfl (Nat.le_of_ble_eq_true rfl) (xRok (d' := d - 1) (by omega) (by decide)) ⟨Nat.le_refl _, Nat.le_refl _⟩ d_X_undo_2 rfl ?_
  refine X_ifb_ne (tgt := 11) d_X_undo_5 (by decide) (fun c_1 => ?_) (fun c_1 => ?_)
  ·
    obtain ⟨i, hi, rfl⟩ := cHead h5 c_1
    refine X_iload_n d_X_undo_11 rfl rfl ?_
    refine X_callS (v := .int (xb (xin sp 1 9))) (rest := []) (c_X_isPace l G nn _ (by omega) sp) lk_X_isPace ml_X_172 rfl (Nat.le_of_ble_eq_true rfl) (xRok (d' := d - 1) (by omega) (by decide)) ⟨Nat.le_refl _, Nat.le_refl _⟩ d_X_undo_12 rfl ?_
    refine X_ifb_eq (tgt := 27) d_X_undo_15 (by decide) (fun c_2 => ?_) (fun c_2 => ?_)
    ·
      refine X_ldc cs_X_149 d_X_undo_27 ?_
      exact X_iret rfl (congrArg (fun q => some (Value.int q)) (by first | (simp [aUndo, c_1, nI_cl (show i < 2 ^ 31 by omega), c_2, xl_1_0, xl_1_1, xl_2_0, xl_2_1, xl_2_2, xl_3_0, xl_3_1, xl_3_2, xl_3_3]; done) | (exfalso; simp_all; done) | (clear hTs hR hK; simp_all [aUndo, nI_cl (show i < 2 ^ 31 by omega)]; done))) (xle_3 (fun k hk => by simp only [xup_n _ _ hk])) d_X_undo_29
    ·
      refine X_iload_n d_X_undo_18 rfl rfl ?_
      refine X_iconst (v := 0) d_X_undo_19 rfl ?_
      refine X_iconst (v := 1) d_X_undo_20 rfl ?_
      refine X_callS (v := .int (xb (xin what 0 1))) (rest := []) (c_X_within l G nn _ (by omega) what 0 1) lk_X_within ml_X_105 rfl (Nat.le_of_ble_eq_true rfl) (xRok (d' := d - 1) (by omega) (by decide)) ⟨Nat.le_refl _, Nat.le_refl _⟩ d_X_undo_21 rfl ?_
      refine X_ifb_ne (tgt := 30) d_X_undo_24 (by decide) (fun c_3 => ?_) (fun c_3 => ?_)
      ·
        refine X_aload_n d_X_undo_30 rfl rfl ?_
        refine X_aload_n d_X_undo_31 rfl rfl ?_
        refine X_iload_n d_X_undo_32 rfl rfl ?_
        refine X_callV (v := .ref (xg G (17 + 2 * i))) (rest := [.ref (xg G 0)]) (c_X_headAt l G nn (xup xYf 3 (some sHead)) (xup I 3 f3) (by omega) (xYok_3 xYok_f _) i (by omega)) lk_X_headAt ml_X_124 (xm_obj (y0 (xYok_3 xYok_f _))) rfl rfl (Nat.le_of_ble_eq_true rfl) (xRok (d' := d - 1) (by omega) (by decide)) ⟨Nat.le_refl _, Nat.le_refl _⟩ d_X_undo_33 rfl ?_
        refine X_callVv (rest := []) (k_X_think l G nn (xup xYf 3 (some sHead)) (xup I 3 f3) (by omega) (xYok_3 xYok_f _) (show (xup xYf 3 (some sHead)) 3 = some sHead from rfl) (17 + 2 * i) (yH (xYok_3 xYok_f _) (show i < 5 by omega)) (by omega) f3 (I (17 + 2 * i)) (xup_s _ _ _) (xup_n _ _ (by omega)) (hR _ (by omega)) hf3) lk_X_think ml_X_205 (xm_obj (y0 (xYok_3 xYok_f _))) rfl rfl (Nat.le_of_ble_eq_true rfl) (xRok (d' := d - 1) (by omega) (by decide)) ⟨Nat.le_refl _, Nat.le_refl _⟩ d_X_undo_36 rfl ?_
        rw [xup_up]
        refine X_aload_n d_X_undo_39 rfl rfl ?_
        refine X_getR (r := 3) fg_X_19 (y0 (xYok_3 xYok_f _)) rfl d_X_undo_40 ?_
        refine X_getI (v := (hStd (I (17 + 2 * i))) 2) fg_X_140 (show (xup xYf 3 (some sHead)) 3 = some sHead from rfl) rfl (congrFun (xup_s _ _ _) _) d_X_undo_43 ?_
        refine X_if_le (tgt := 53) d_X_undo_46 (by decide) (fun c_4 => ?_) (fun c_4 => ?_)
        ·
          refine X_iconst (v := 1) d_X_undo_53 rfl ?_
          refine X_istore d_X_undo_54 (by decide) [1, 2, 3, 4, 0] (L' := [(0, .ref (xg G 0)), (1, .int (nI i)), (2, .int sp), (3, .int what), (4, .int 1)]) rfl ?_
          refine X_iconst (v := 0) d_X_undo_56 rfl ?_
          refine X_istore d_X_undo_57 (by decide) [1, 2, 3, 4, 5, 0] (L' := [(0, .ref (xg G 0)), (1, .int (nI i)), (2, .int sp), (3, .int what), (4, .int 1), (5, .int 0)]) rfl ?_
          refine X_aload_n d_X_undo_59 rfl rfl ?_
          refine X_getR (r := 3) fg_X_19 (y0 (xYok_3 xYok_f _)) rfl d_X_undo_60 ?_
          refine X_getI (v := (hStd (I (17 + 2 * i))) 2) fg_X_140 (show (xup xYf 3 (some sHead)) 3 = some sHead from rfl) rfl (congrFun (xup_s _ _ _) _) d_X_undo_63 ?_
          refine X_mabsx ml_X_216 mt_abs mi_math mc_abs (xRm (by omega) (Nat.le_of_ble_eq_true rfl)) ⟨Nat.zero_le _, Nat.zero_le _⟩ d_X_undo_66 ?_
          refine X_istore d_X_undo_69 (by decide) [1, 2, 3, 4, 5, 6, 0] (L' := [(0, .ref (xg G 0)), (1, .int (nI i)), (2, .int sp), (3, .int what), (4, .int 1), (5, .int 0), (6, .int (xabs ((hStd (I (17 + 2 * i))) 2)))]) rfl ?_
          refine X_iconst (v := 1) d_X_undo_71 rfl ?_
          refine X_istore d_X_undo_72 (by decide) [1, 2, 3, 4, 5, 6, 7, 0] (L' := [(0, .ref (xg G 0)), (1, .int (nI i)), (2, .int sp), (3, .int what), (4, .int 1), (5, .int 0), (6, .int (xabs ((hStd (I (17 + 2 * i))) 2))), (7, .int 1)]) rfl ?_
          refine X_sub [0, 2, 3, 4, 5, 6, 7] (L' := [(0, .ref (xg G 0)), (2, .int sp), (3, .int what), (4, .int 1), (5, .int 0), (6, .int (xabs ((hStd (I (17 + 2 * i))) 2))), (7, .int 1)]) rfl ?_
          exact w_X_undo l G nn I (by omega) hc tc ln S hK sp what 1 _ 40 1 _ _ _ (hOK_sd (hR _ (by omega))) (by omega) (by simp [aUndo, c_1, nI_cl (show i < 2 ^ 31 by omega), c_2, c_3, c_4, Int32.not_lt.mpr c_4])
        ·
          refine X_iconst (v := -1) d_X_undo_49 rfl ?_
          refine X_goto (tgt := 54) d_X_undo_50 (by decide) ?_
          refine X_istore d_X_undo_54 (by decide) [1, 2, 3, 4, 0] (L' := [(0, .ref (xg G 0)), (1, .int (nI i)), (2, .int sp), (3, .int what), (4, .int (-1))]) rfl ?_
          refine X_iconst (v := 0) d_X_undo_56 rfl ?_
          refine X_istore d_X_undo_57 (by decide) [1, 2, 3, 4, 5, 0] (L' := [(0, .ref (xg G 0)), (1, .int (nI i)), (2, .int sp), (3, .int what), (4, .int (-1)), (5, .int 0)]) rfl ?_
          refine X_aload_n d_X_undo_59 rfl rfl ?_
          refine X_getR (r := 3) fg_X_19 (y0 (xYok_3 xYok_f _)) rfl d_X_undo_60 ?_
          refine X_getI (v := (hStd (I (17 + 2 * i))) 2) fg_X_140 (show (xup xYf 3 (some sHead)) 3 = some sHead from rfl) rfl (congrFun (xup_s _ _ _) _) d_X_undo_63 ?_
          refine X_mabsx ml_X_216 mt_abs mi_math mc_abs (xRm (by omega) (Nat.le_of_ble_eq_true rfl)) ⟨Nat.zero_le _, Nat.zero_le _⟩ d_X_undo_66 ?_
          refine X_istore d_X_undo_69 (by decide) [1, 2, 3, 4, 5, 6, 0] (L' := [(0, .ref (xg G 0)), (1, .int (nI i)), (2, .int sp), (3, .int what), (4, .int (-1)), (5, .int 0), (6, .int (xabs ((hStd (I (17 + 2 * i))) 2)))]) rfl ?_
          refine X_iconst (v := 1) d_X_undo_71 rfl ?_
          refine X_istore d_X_undo_72 (by decide) [1, 2, 3, 4, 5, 6, 7, 0] (L' := [(0, .ref (xg G 0)), (1, .int (nI i)), (2, .int sp), (3, .int what), (4, .int (-1)), (5, .int 0), (6, .int (xabs ((hStd (I (17 + 2 * i))) 2))), (7, .int 1)]) rfl ?_
          refine X_sub [0, 2, 3, 4, 5, 6, 7] (L' := [(0, .ref (xg G 0)), (2, .int sp), (3, .int what), (4, .int (-1)), (5, .int 0), (6, .int (xabs ((hStd (I (17 + 2 * i))) 2))), (7, .int 1)]) rfl ?_
          exact w_X_undo l G nn I (by omega) hc tc ln S hK sp what (-1) _ 40 1 _ _ _ (hOK_sd (hR _ (by omega))) (by omega) (by simp [aUndo, c_1, nI_cl (show i < 2 ^ 31 by omega), c_2, c_3, c_4, Int32.not_le.mp c_4])
      ·
        refine X_ldc cs_X_149 d_X_undo_27 ?_
        exact X_iret rfl (congrArg (fun q => some (Value.int q)) (by first | (simp [aUndo, c_1, nI_cl (show i < 2 ^ 31 by omega), c_2, c_3, xl_1_0, xl_1_1, xl_2_0, xl_2_1, xl_2_2, xl_3_0, xl_3_1, xl_3_2, xl_3_3]; done) | (exfalso; simp_all; done) | (clear hTs hR hK; simp_all [aUndo, nI_cl (show i < 2 ^ 31 by omega)]; done))) (xle_3 (fun k hk => by simp only [xup_n _ _ hk])) d_X_undo_29
  ·
    refine X_ldc cs_X_139 d_X_undo_8 ?_
    exact X_iret rfl (congrArg (fun q => some (Value.int q)) (by first | (simp [aUndo, c_1, xl_1_0, xl_1_1, xl_2_0, xl_2_1, xl_2_2, xl_3_0, xl_3_1, xl_3_2, xl_3_3]; done) | (exfalso; simp_all; done) | (clear hTs hR hK; simp_all [aUndo]; done))) (xle_3 (fun k hk => by simp only [xup_n _ _ hk])) d_X_undo_10
def sFine (L : xSay) (much : Int32) : Nat → Nat → (Nat → Int32) → Int32
  | 0, _, _ => -1
  | k + 1, w, f => if xabs (f 2) < much then nI w else sFine L much k (w + 1) (hFade L 1 f)
def aFine (hc : Nat) (L : xSay) (R : Nat → Nat → Int32) (h much : Int32) : Int32 := if xin h 0 (nI hc - 1) = true then (if xin much 1 9999 = true then sFine L much 61 0 (hStd (R h.toNatClampNeg)) else -100007) else -100005
def Q_X_fine (l : Launch) (G : xG) (d nn : Nat) (I : xI) (ln : Nat) (S : Nat → xSay) (much : Int32) (r : Int32) (n : Nat) (f : Nat → Int32) : Prop := XW l G (xR d 0 0) y_X_fine b_X_fine 4 (some .int) xK0 (xZ G nn (xm G xYf (I)) (some (.int r)) 0 0) nn (xm G (xup xYf 3 (some sHead)) (xup I 3 f)) 0 0 36 [(0, .ref (xg G 0)), (2, .int much), (3, .int (nI n))] []
theorem w_X_fine (l : Launch) (G : xG) {d : Nat} (nn : Nat) (I : xI) (hd : 10 ≤ d) (hc tc ln : Nat) (S : Nat → xSay) (hK : cOK I hc tc ln S) (much : Int32)  (r : Int32) : ∀ (k n : Nat) (f : Nat → Int32) (hz_f : hOK f), n + k = 61 → r = sFine (S ln) much k n f → Q_X_fine l G d nn I ln S much r n f := by
  obtain ⟨⟨h10, h5⟩, ⟨h11, h6⟩, ⟨h12, hl⟩, hTs, hR⟩ := id hK
  intro k
  induction k with
  | zero =>
    intro n f hz_f hk hr
    unfold Q_X_fine
    refine X_iload_n d_X_fine_36 rfl rfl ?_
    refine X_bipush (v := 60) d_X_fine_37 rfl ?_
    refine X_icmp_gt (tgt := 76) d_X_fine_39 (by decide) (fun _ => ?_) (fun c_1 => absurd c_1 (not_not_intro (show nI 60 < nI n from nI_lt (by omega) (by omega))))
    refine X_iconst (v := -1) d_X_fine_76 rfl ?_
    exact X_iret rfl (congrArg (fun q => some (Value.int q)) (by rw [hr]; simp [sFine])) (xle_3 (fun k hk => by simp only [xup_n _ _ hk])) d_X_fine_77
  | succ k ih =>
    intro n f hz_f hk hr
    unfold Q_X_fine
    refine X_iload_n d_X_fine_36 rfl rfl ?_
    refine X_bipush (v := 60) d_X_fine_37 rfl ?_
    refine X_icmp_gt (tgt := 76) d_X_fine_39 (by decide) (fun c_1 => absurd c_1 (show ¬ nI 60 < nI n from nI_nlt (by omega) (by omega))) (fun _ => ?_)
    refine X_aload_n d_X_fine_42 rfl rfl ?_
    refine X_getR (r := 3) fg_X_19 (y0 (xYok_3 xYok_f _)) rfl d_X_fine_43 ?_
    refine X_getI (v := f 2) fg_X_140 (show (xup xYf 3 (some sHead)) 3 = some sHead from rfl) rfl (congrFun (xup_s _ _ _) _) d_X_fine_46 ?_
    refine X_mabsx ml_X_216 mt_abs mi_math mc_abs (xRm (by omega) (Nat.le_of_ble_eq_true rfl)) ⟨Nat.zero_le _, Nat.zero_le _⟩ d_X_fine_49 ?_
    refine X_iload_n d_X_fine_52 rfl rfl ?_
    refine X_icmp_ge (tgt := 58) d_X_fine_53 (by decide) (fun c_2 => ?_) (fun c_2 => ?_)
    ·
      refine X_aload_n d_X_fine_58 rfl rfl ?_
      refine X_getR (r := 3) fg_X_19 (y0 (xYok_3 xYok_f _)) rfl d_X_fine_59 ?_
      refine X_aload_n d_X_fine_62 rfl rfl ?_
      refine X_callV (v := .ref (xg G (27 + 4 * ln))) (rest := [.ref (xg G 3)]) (c_X_law l G nn (xup xYf 3 (some sHead)) (xup I 3 f) (by omega) (xYok_3 xYok_f _) ln (by omega) ((congrFun (xup_n _ _ (by decide)) _).trans (h12))) lk_X_law ml_X_120 (xm_obj (y0 (xYok_3 xYok_f _))) rfl rfl (Nat.le_of_ble_eq_true rfl) (xRok (d' := d - 1) (by omega) (by decide)) ⟨Nat.le_refl _, Nat.le_refl _⟩ d_X_fine_63 rfl ?_
      refine X_iconst (v := 1) d_X_fine_66 rfl ?_
      refine X_callVv (rest := []) (k_Head_fade l G nn (xup xYf 3 (some sHead)) (xup I 3 f) (by omega) 3 (show (xup xYf 3 (some sHead)) 3 = some sHead from rfl) (27 + 4 * ln) (S ln) (xTx_up (xTx_Y (xYok_3 xYok_f _) (show ln < 6 by omega) (hTs ln hl)) (show (xup xYf 3 (some sHead)) 3 = some sHead from rfl)) 1 f (xup_s _ _ _)) lk_Head_fade ml_X_220 (xm_obj (show (xup xYf 3 (some sHead)) 3 = some sHead from rfl)) rfl rfl (Nat.le_of_ble_eq_true rfl) (xRok (d' := d - 1) (by omega) (by decide)) ⟨Nat.le_refl _, Nat.le_refl _⟩ d_X_fine_67 rfl ?_
      rw [xup_up]
      refine X_iinc d_X_fine_70 rfl (v := (nI n) + 1) rfl (by decide) [1, 2, 0] (L' := [(0, .ref (xg G 0)), (2, .int much), (3, .int ((nI n) + 1))]) rfl ?_
      refine X_goto (tgt := 36) d_X_fine_73 (by decide) ?_
      simp only [nI_1]
      exact ih (n + 1) _ (hOK_fade _ _ hz_f) (by omega) (by rw [hr]; simp [sFine, c_2, Int32.not_lt.mpr c_2])
    ·
      refine X_iload_n d_X_fine_56 rfl rfl ?_
      exact X_iret rfl (congrArg (fun q => some (Value.int q)) (by rw [hr]; simp [sFine, c_2, Int32.not_le.mp c_2])) (xle_3 (fun k hk => by simp only [xup_n _ _ hk])) d_X_fine_57
theorem c_X_fine (l : Launch) (G : xG) {d : Nat} (nn : Nat) (I : xI) (hd : 11 ≤ d) (hc tc ln : Nat) (S : Nat → xSay) (hK : cOK I hc tc ln S) (h much : Int32) : XM l G d y_X_fine b_X_fine 4 (some .int) 0 0 xK0 [.ref (xg G 0), .int h, .int much] nn (xm G xYf I) (some (.int (aFine hc (S ln) (fun i => I (17 + 2 * i)) h much))) nn (xm G xYf (I)) := by
  obtain ⟨⟨h10, h5⟩, ⟨h11, h6⟩, ⟨h12, hl⟩, hTs, hR⟩ := id hK
  have hT : xTx xYf I (27 + 4 * ln) (S ln) := hTs ln hl
  refine XM.of (by decide) (Nat.le_of_ble_eq_true rfl) (L := [(0, .ref (xg G 0)), (1, .int h), (2, .int much)]) rfl ?_
  refine X_knowH (a := 3) rfl (fun f3 hf3 => ?_)
  refine X_aload_n d_X_fine_0 rfl rfl ?_
  refine X_iload_n d_X_fine_1 rfl rfl ?_
  refine X_callV (v := .int (xb (xin h 0 (nI hc - 1)))) (rest := []) (c_X_isHead l G nn (xup xYf 3 (some sHead)) (xup I 3 f3) (by omega) (xYok_3 xYok_f _) h (nI hc) ((congrFun (xup_n _ _ (by decide)) _).trans (h10))) lk_X_isHead ml_X_113 (xm_obj (y0 (xYok_3 xYok_f _))) rfl rfl (Nat.le_of_ble_eq_true rfl) (xRok (d' := d - 1) (by omega) (by decide)) ⟨Nat.le_refl _, Nat.le_refl _⟩ d_X_fine_2 rfl ?_
  refine X_ifb_ne (tgt := 11) d_X_fine_5 (by decide) (fun c_1 => ?_) (fun c_1 => ?_)
  ·
    obtain ⟨i, hi, rfl⟩ := cHead h5 c_1
    refine X_iload_n d_X_fine_11 rfl rfl ?_
    refine X_iconst (v := 1) d_X_fine_12 rfl ?_
    refine X_sipush (v := 9999) d_X_fine_13 rfl ?_
    refine X_callS (v := .int (xb (xin much 1 9999))) (rest := []) (c_X_within l G nn _ (by omega) much 1 9999) lk_X_within ml_X_105 rfl (Nat.le_of_ble_eq_true rfl) (xRok (d' := d - 1) (by omega) (by decide)) ⟨Nat.le_refl _, Nat.le_refl _⟩ d_X_fine_16 rfl ?_
    refine X_ifb_ne (tgt := 25) d_X_fine_19 (by decide) (fun c_2 => ?_) (fun c_2 => ?_)
    ·
      refine X_aload_n d_X_fine_25 rfl rfl ?_
      refine X_aload_n d_X_fine_26 rfl rfl ?_
      refine X_iload_n d_X_fine_27 rfl rfl ?_
      refine X_callV (v := .ref (xg G (17 + 2 * i))) (rest := [.ref (xg G 0)]) (c_X_headAt l G nn (xup xYf 3 (some sHead)) (xup I 3 f3) (by omega) (xYok_3 xYok_f _) i (by omega)) lk_X_headAt ml_X_124 (xm_obj (y0 (xYok_3 xYok_f _))) rfl rfl (Nat.le_of_ble_eq_true rfl) (xRok (d' := d - 1) (by omega) (by decide)) ⟨Nat.le_refl _, Nat.le_refl _⟩ d_X_fine_28 rfl ?_
      refine X_callVv (rest := []) (k_X_think l G nn (xup xYf 3 (some sHead)) (xup I 3 f3) (by omega) (xYok_3 xYok_f _) (show (xup xYf 3 (some sHead)) 3 = some sHead from rfl) (17 + 2 * i) (yH (xYok_3 xYok_f _) (show i < 5 by omega)) (by omega) f3 (I (17 + 2 * i)) (xup_s _ _ _) (xup_n _ _ (by omega)) (hR _ (by omega)) hf3) lk_X_think ml_X_205 (xm_obj (y0 (xYok_3 xYok_f _))) rfl rfl (Nat.le_of_ble_eq_true rfl) (xRok (d' := d - 1) (by omega) (by decide)) ⟨Nat.le_refl _, Nat.le_refl _⟩ d_X_fine_31 rfl ?_
      rw [xup_up]
      refine X_iconst (v := 0) d_X_fine_34 rfl ?_
      refine X_istore_n d_X_fine_35 rfl (by decide) [1, 2, 3, 0] (L' := [(0, .ref (xg G 0)), (1, .int (nI i)), (2, .int much), (3, .int 0)]) rfl ?_
      refine X_sub [0, 2, 3] (L' := [(0, .ref (xg G 0)), (2, .int much), (3, .int 0)]) rfl ?_
      exact w_X_fine l G nn I (by omega) hc tc ln S hK much _ 61 0 _ (hOK_sd (hR _ (by omega))) (by omega) (by simp [aFine, c_1, nI_cl (show i < 2 ^ 31 by omega), c_2])
    ·
      refine X_ldc cs_X_149 d_X_fine_22 ?_
      exact X_iret rfl (congrArg (fun q => some (Value.int q)) (by first | (simp [aFine, c_1, nI_cl (show i < 2 ^ 31 by omega), c_2, xl_1_0, xl_1_1, xl_2_0, xl_2_1, xl_2_2, xl_3_0, xl_3_1, xl_3_2, xl_3_3]; done) | (exfalso; simp_all; done) | (clear hTs hR hK; simp_all [aFine, nI_cl (show i < 2 ^ 31 by omega)]; done))) (xle_3 (fun k hk => by simp only [xup_n _ _ hk])) d_X_fine_24
  ·
    refine X_ldc cs_X_139 d_X_fine_8 ?_
    exact X_iret rfl (congrArg (fun q => some (Value.int q)) (by first | (simp [aFine, c_1, xl_1_0, xl_1_1, xl_2_0, xl_2_1, xl_2_2, xl_3_0, xl_3_1, xl_3_2, xl_3_3]; done) | (exfalso; simp_all; done) | (clear hTs hR hK; simp_all [aFine]; done))) (xle_3 (fun k hk => by simp only [xup_n _ _ hk])) d_X_fine_10
theorem c_X_raceSeconds (l : Launch) (G : xG) {d : Nat} (nn : Nat) (M : xM) (hd : 2 ≤ d) (sp fw : Int32) : XM l G d y_X_raceSeconds b_X_raceSeconds 2 (some .int) 0 0 xK0 [.int sp, .int fw] nn M (some (.int (xru (fw / 1000) (sp - sp / 10 * 10)))) nn M := by
  refine XM.of (by decide) (Nat.le_of_ble_eq_true rfl) (L := [(0, .int sp), (1, .int fw)]) rfl ?_
  refine X_iload_n d_X_raceSeconds_0 rfl rfl ?_
  refine X_sipush (v := 1000) d_X_raceSeconds_1 rfl ?_
  refine X_idiv d_X_raceSeconds_4 (by decide) ?_
  refine X_iload_n d_X_raceSeconds_5 rfl rfl ?_
  refine X_bipush (v := 10) d_X_raceSeconds_6 rfl ?_
  refine X_irem d_X_raceSeconds_8 (by decide) ?_
  refine X_callS (v := .int (xru (fw / 1000) (sp - sp / 10 * 10))) (rest := []) (c_X_roundedUp l G nn _ (by omega) (fw / 1000) (sp - sp / 10 * 10)) lk_X_roundedUp ml_X_238 rfl (Nat.le_of_ble_eq_true rfl) (xRok (d' := d - 1) (by omega) (by decide)) ⟨Nat.le_refl _, Nat.le_refl _⟩ d_X_raceSeconds_9 rfl ?_
  exact X_iret rfl (congrArg (fun q => some (Value.int q)) (by rfl)) (xle_rf _) d_X_raceSeconds_12
def sRaceW (L : xSay) (sec : Nat) (pace wide : Int32) : Nat → Nat → (Nat → Int32) → Int32
  | 0, _, _ => -1
  | k + 1, w, b => if hGo L pace 1 sec b 7 = 0 ∧ xabs (hGo L pace 1 sec b 6) ≤ wide then nI w else sRaceW L sec pace wide k (w + 1) (hFade L 1 b)
def rRaceW (L : xSay) (n sp fw : Int32) (f : Nat → Int32) : Int32 := if xin (xru (fw / 1000) (sp - sp / 10 * 10)) 0 60 = true then sRaceW L (xru (fw / 1000) (sp - sp / 10 * 10)).toNatClampNeg (sp - sp / 10 * 10) (fw - fw / 1000 * 1000) 61 0 (hSpin L n (sp / 10) (hStd f)) else -1
def Q_X_raceWait (l : Launch) (G : xG) (d nn : Nat) (I : xI) (ln : Nat) (S : Nat → xSay) (sp : Int32) (fw : Int32) (sec : Int32) (r : Int32) (w : Nat) (a : Nat → Int32) (b : Nat → Int32) : Prop := XW l G (xR d 0 0) y_X_raceWait b_X_raceWait 7 (some .int) xK0 (xZ G nn (xm G xYf (I)) (some (.int r)) 0 0) nn (xm G (xup (xup xYf 3 (some sHead)) 4 (some sHead)) (xup (xup I 3 a) 4 b)) 0 0 52 [(0, .ref (xg G 0)), (3, .int sp), (4, .int fw), (5, .int sec), (6, .int (nI w))] []
theorem w_X_raceWait (l : Launch) (G : xG) {d : Nat} (nn : Nat) (I : xI) (hd : 10 ≤ d) (hc tc ln : Nat) (S : Nat → xSay) (hK : cOK I hc tc ln S) (sp : Int32) (fw : Int32) (sec : Int32) (hsec : ¬ sec < 0) (r : Int32) : ∀ (k w : Nat) (a : Nat → Int32) (b : Nat → Int32) (hz_b : hOK b) (hy_a : hZ a), w + k = 61 → r = sRaceW (S ln) sec.toNatClampNeg (sp - sp / 10 * 10) (fw - fw / 1000 * 1000) k w b → Q_X_raceWait l G d nn I ln S sp fw sec r w a b := by
  obtain ⟨⟨h10, h5⟩, ⟨h11, h6⟩, ⟨h12, hl⟩, hTs, hR⟩ := id hK
  intro k
  induction k with
  | zero =>
    intro w a b hz_b hy_a hk hr
    unfold Q_X_raceWait
    refine X_iload d_X_raceWait_52 rfl ?_
    refine X_bipush (v := 60) d_X_raceWait_54 rfl ?_
    refine X_icmp_gt (tgt := 139) d_X_raceWait_56 (by decide) (fun _ => ?_) (fun c_1 => absurd c_1 (not_not_intro (show nI 60 < nI w from nI_lt (by omega) (by omega))))
    refine X_iconst (v := -1) d_X_raceWait_139 rfl ?_
    exact X_iret rfl (congrArg (fun q => some (Value.int q)) (by rw [hr]; simp [sRaceW])) (xle_34 (fun k hk hk4 => by simp only [xup_n _ _ hk, xup_n _ _ hk4])) d_X_raceWait_140
  | succ k ih =>
    intro w a b hz_b hy_a hk hr
    unfold Q_X_raceWait
    refine X_iload d_X_raceWait_52 rfl ?_
    refine X_bipush (v := 60) d_X_raceWait_54 rfl ?_
    refine X_icmp_gt (tgt := 139) d_X_raceWait_56 (by decide) (fun c_1 => absurd c_1 (show ¬ nI 60 < nI w from nI_nlt (by omega) (by omega))) (fun _ => ?_)
    refine X_aload_n d_X_raceWait_59 rfl rfl ?_
    refine X_getR (r := 3) fg_X_19 (y0 (xYok_4 (xYok_3 xYok_f _) _)) rfl d_X_raceWait_60 ?_
    refine X_aload_n d_X_raceWait_63 rfl rfl ?_
    refine X_getR (r := 4) fg_X_23 (y0 (xYok_4 (xYok_3 xYok_f _) _)) rfl d_X_raceWait_64 ?_
    refine X_callVv (rest := []) (k_Head_become l G nn (xup (xup xYf 3 (some sHead)) 4 (some sHead)) (xup (xup I 3 a) 4 b) (by omega) 3 (show (xup (xup xYf 3 (some sHead)) 4 (some sHead)) 3 = some sHead from rfl) 4 (show (xup (xup xYf 3 (some sHead)) 4 (some sHead)) 4 = some sHead from rfl) (by decide) a b ((xup_n _ _ (by decide)).trans (xup_s _ _ _)) (xup_s _ _ _) hz_b hy_a) lk_Head_become ml_X_235 (xm_obj (show (xup (xup xYf 3 (some sHead)) 4 (some sHead)) 3 = some sHead from rfl)) rfl rfl (Nat.le_of_ble_eq_true rfl) (xRok (d' := d - 1) (by omega) (by decide)) ⟨Nat.le_refl _, Nat.le_refl _⟩ d_X_raceWait_67 rfl ?_
    rw [xup_aba _ _ _ _ (show (4 : Nat) ≠ 3 from (by decide))]
    refine X_aload_n d_X_raceWait_70 rfl rfl ?_
    refine X_getR (r := 3) fg_X_19 (y0 (xYok_4 (xYok_3 xYok_f _) _)) rfl d_X_raceWait_71 ?_
    refine X_aload_n d_X_raceWait_74 rfl rfl ?_
    refine X_callV (v := .ref (xg G (27 + 4 * ln))) (rest := [.ref (xg G 3)]) (c_X_law l G nn (xup (xup xYf 3 (some sHead)) 4 (some sHead)) (xup (xup I 3 b) 4 b) (by omega) (xYok_4 (xYok_3 xYok_f _) _) ln (by omega) ((congrFun (xup_n _ _ (by decide)) _).trans ((congrFun (xup_n _ _ (by decide)) _).trans (h12)))) lk_X_law ml_X_120 (xm_obj (y0 (xYok_4 (xYok_3 xYok_f _) _))) rfl rfl (Nat.le_of_ble_eq_true rfl) (xRok (d' := d - 1) (by omega) (by decide)) ⟨Nat.le_refl _, Nat.le_refl _⟩ d_X_raceWait_75 rfl ?_
    refine X_iload d_X_raceWait_78 rfl ?_
    refine X_iload_n d_X_raceWait_80 rfl rfl ?_
    refine X_bipush (v := 10) d_X_raceWait_81 rfl ?_
    refine X_irem d_X_raceWait_83 (by decide) ?_
    refine X_iconst (v := 1) d_X_raceWait_84 rfl ?_
    refine X_callV (v := .int (hFall (S ln) (sp - sp / 10 * 10) 1 (sec).toNatClampNeg 0 b)) (rest := []) (k_Head_goOn l G nn (xup (xup xYf 3 (some sHead)) 4 (some sHead)) (xup (xup I 3 b) 4 b) (by omega) 3 (show (xup (xup xYf 3 (some sHead)) 4 (some sHead)) 3 = some sHead from rfl) (27 + 4 * ln) (S ln) (xTx_up (xTx_up (xTx_Y (xYok_4 (xYok_3 xYok_f _) _) (show ln < 6 by omega) (hTs ln hl)) (show (xup (xup xYf 3 (some sHead)) 4 (some sHead)) 3 = some sHead from rfl)) (show (xup (xup xYf 3 (some sHead)) 4 (some sHead)) 4 = some sHead from rfl)) sec (sp - sp / 10 * 10) 1 (by first | assumption | decide | grind) b ((xup_n _ _ (by decide)).trans (xup_s _ _ _)) hz_b.1) lk_Head_goOn ml_X_191 (xm_obj (show (xup (xup xYf 3 (some sHead)) 4 (some sHead)) 3 = some sHead from rfl)) rfl rfl (Nat.le_of_ble_eq_true rfl) (xRok (d' := d - 1) (by omega) (by decide)) ⟨Nat.le_refl _, Nat.le_refl _⟩ d_X_raceWait_85 rfl ?_
    rw [xup_aba _ _ _ _ (show (4 : Nat) ≠ 3 from (by decide))]
    refine X_pop d_X_raceWait_88 rfl ?_
    refine X_aload_n d_X_raceWait_89 rfl rfl ?_
    refine X_getR (r := 3) fg_X_19 (y0 (xYok_4 (xYok_3 xYok_f _) _)) rfl d_X_raceWait_90 ?_
    refine X_getI (v := (hGo (S ln) (sp - sp / 10 * 10) 1 (sec).toNatClampNeg b) 7) fg_X_162 (show (xup (xup xYf 3 (some sHead)) 4 (some sHead)) 3 = some sHead from rfl) rfl ((congrFun (xup_n _ _ (by decide)) _).trans (congrFun (xup_s _ _ _) _)) d_X_raceWait_93 ?_
    refine X_if_ne (tgt := 121) d_X_raceWait_96 (by decide) (fun c_2 => ?_) (fun c_2 => ?_)
    ·
      refine X_aload_n d_X_raceWait_121 rfl rfl ?_
      refine X_getR (r := 4) fg_X_23 (y0 (xYok_4 (xYok_3 xYok_f _) _)) rfl d_X_raceWait_122 ?_
      refine X_aload_n d_X_raceWait_125 rfl rfl ?_
      refine X_callV (v := .ref (xg G (27 + 4 * ln))) (rest := [.ref (xg G 4)]) (c_X_law l G nn (xup (xup xYf 3 (some sHead)) 4 (some sHead)) (xup (xup I 3 (hGo (S ln) (sp - sp / 10 * 10) 1 (sec).toNatClampNeg b)) 4 b) (by omega) (xYok_4 (xYok_3 xYok_f _) _) ln (by omega) ((congrFun (xup_n _ _ (by decide)) _).trans ((congrFun (xup_n _ _ (by decide)) _).trans (h12)))) lk_X_law ml_X_120 (xm_obj (y0 (xYok_4 (xYok_3 xYok_f _) _))) rfl rfl (Nat.le_of_ble_eq_true rfl) (xRok (d' := d - 1) (by omega) (by decide)) ⟨Nat.le_refl _, Nat.le_refl _⟩ d_X_raceWait_126 rfl ?_
      refine X_iconst (v := 1) d_X_raceWait_129 rfl ?_
      refine X_callVv (rest := []) (k_Head_fade l G nn (xup (xup xYf 3 (some sHead)) 4 (some sHead)) (xup (xup I 3 (hGo (S ln) (sp - sp / 10 * 10) 1 (sec).toNatClampNeg b)) 4 b) (by omega) 4 (show (xup (xup xYf 3 (some sHead)) 4 (some sHead)) 4 = some sHead from rfl) (27 + 4 * ln) (S ln) (xTx_up (xTx_up (xTx_Y (xYok_4 (xYok_3 xYok_f _) _) (show ln < 6 by omega) (hTs ln hl)) (show (xup (xup xYf 3 (some sHead)) 4 (some sHead)) 3 = some sHead from rfl)) (show (xup (xup xYf 3 (some sHead)) 4 (some sHead)) 4 = some sHead from rfl)) 1 b (xup_s _ _ _)) lk_Head_fade ml_X_220 (xm_obj (show (xup (xup xYf 3 (some sHead)) 4 (some sHead)) 4 = some sHead from rfl)) rfl rfl (Nat.le_of_ble_eq_true rfl) (xRok (d' := d - 1) (by omega) (by decide)) ⟨Nat.le_refl _, Nat.le_refl _⟩ d_X_raceWait_130 rfl ?_
      rw [xup_up]
      refine X_iinc d_X_raceWait_133 rfl (v := (nI w) + 1) rfl (by decide) [1, 2, 3, 4, 0] (L' := [(0, .ref (xg G 0)), (3, .int sp), (4, .int fw), (5, .int sec), (6, .int ((nI w) + 1))]) rfl ?_
      refine X_goto (tgt := 52) d_X_raceWait_136 (by decide) ?_
      simp only [nI_1]
      exact ih (w + 1) _ _ (hOK_fade _ _ hz_b) (hOK_go _ _ _ _ hz_b).2 (by omega) (by rw [hr]; simp [sRaceW, c_2])
    ·
      refine X_aload_n d_X_raceWait_99 rfl rfl ?_
      refine X_getR (r := 3) fg_X_19 (y0 (xYok_4 (xYok_3 xYok_f _) _)) rfl d_X_raceWait_100 ?_
      refine X_getI (v := (hGo (S ln) (sp - sp / 10 * 10) 1 (sec).toNatClampNeg b) 6) fg_X_159 (show (xup (xup xYf 3 (some sHead)) 4 (some sHead)) 3 = some sHead from rfl) rfl ((congrFun (xup_n _ _ (by decide)) _).trans (congrFun (xup_s _ _ _) _)) d_X_raceWait_103 ?_
      refine X_mabsx ml_X_216 mt_abs mi_math mc_abs (xRm (by omega) (Nat.le_of_ble_eq_true rfl)) ⟨Nat.zero_le _, Nat.zero_le _⟩ d_X_raceWait_106 ?_
      refine X_iload d_X_raceWait_109 rfl ?_
      refine X_sipush (v := 1000) d_X_raceWait_111 rfl ?_
      refine X_irem d_X_raceWait_114 (by decide) ?_
      refine X_icmp_gt (tgt := 121) d_X_raceWait_115 (by decide) (fun c_3 => ?_) (fun c_3 => ?_)
      ·
        refine X_aload_n d_X_raceWait_121 rfl rfl ?_
        refine X_getR (r := 4) fg_X_23 (y0 (xYok_4 (xYok_3 xYok_f _) _)) rfl d_X_raceWait_122 ?_
        refine X_aload_n d_X_raceWait_125 rfl rfl ?_
        refine X_callV (v := .ref (xg G (27 + 4 * ln))) (rest := [.ref (xg G 4)]) (c_X_law l G nn (xup (xup xYf 3 (some sHead)) 4 (some sHead)) (xup (xup I 3 (hGo (S ln) (sp - sp / 10 * 10) 1 (sec).toNatClampNeg b)) 4 b) (by omega) (xYok_4 (xYok_3 xYok_f _) _) ln (by omega) ((congrFun (xup_n _ _ (by decide)) _).trans ((congrFun (xup_n _ _ (by decide)) _).trans (h12)))) lk_X_law ml_X_120 (xm_obj (y0 (xYok_4 (xYok_3 xYok_f _) _))) rfl rfl (Nat.le_of_ble_eq_true rfl) (xRok (d' := d - 1) (by omega) (by decide)) ⟨Nat.le_refl _, Nat.le_refl _⟩ d_X_raceWait_126 rfl ?_
        refine X_iconst (v := 1) d_X_raceWait_129 rfl ?_
        refine X_callVv (rest := []) (k_Head_fade l G nn (xup (xup xYf 3 (some sHead)) 4 (some sHead)) (xup (xup I 3 (hGo (S ln) (sp - sp / 10 * 10) 1 (sec).toNatClampNeg b)) 4 b) (by omega) 4 (show (xup (xup xYf 3 (some sHead)) 4 (some sHead)) 4 = some sHead from rfl) (27 + 4 * ln) (S ln) (xTx_up (xTx_up (xTx_Y (xYok_4 (xYok_3 xYok_f _) _) (show ln < 6 by omega) (hTs ln hl)) (show (xup (xup xYf 3 (some sHead)) 4 (some sHead)) 3 = some sHead from rfl)) (show (xup (xup xYf 3 (some sHead)) 4 (some sHead)) 4 = some sHead from rfl)) 1 b (xup_s _ _ _)) lk_Head_fade ml_X_220 (xm_obj (show (xup (xup xYf 3 (some sHead)) 4 (some sHead)) 4 = some sHead from rfl)) rfl rfl (Nat.le_of_ble_eq_true rfl) (xRok (d' := d - 1) (by omega) (by decide)) ⟨Nat.le_refl _, Nat.le_refl _⟩ d_X_raceWait_130 rfl ?_
        rw [xup_up]
        refine X_iinc d_X_raceWait_133 rfl (v := (nI w) + 1) rfl (by decide) [1, 2, 3, 4, 0] (L' := [(0, .ref (xg G 0)), (3, .int sp), (4, .int fw), (5, .int sec), (6, .int ((nI w) + 1))]) rfl ?_
        refine X_goto (tgt := 52) d_X_raceWait_136 (by decide) ?_
        simp only [nI_1]
        exact ih (w + 1) _ _ (hOK_fade _ _ hz_b) (hOK_go _ _ _ _ hz_b).2 (by omega) (by rw [hr]; simp [sRaceW, c_2, c_3, Int32.not_le.mpr c_3])
      ·
        refine X_iload d_X_raceWait_118 rfl ?_
        exact X_iret rfl (congrArg (fun q => some (Value.int q)) (by rw [hr]; simp [sRaceW, c_2, c_3, Int32.not_lt.mp c_3])) (xle_34 (fun k hk hk4 => by simp only [xup_n _ _ hk, xup_n _ _ hk4])) d_X_raceWait_120
theorem c_X_raceWait (l : Launch) (G : xG) {d : Nat} (nn : Nat) (I : xI) (hd : 11 ≤ d) (hc tc ln : Nat) (S : Nat → xSay) (hK : cOK I hc tc ln S) (i : Nat) (hi : i < 5) (n sp fw : Int32) (hn : ¬ xabs n < 0) : XM l G d y_X_raceWait b_X_raceWait 7 (some .int) 0 0 xK0 [.ref (xg G 0), .ref (xg G (17 + 2 * i)), .int n, .int sp, .int fw] nn (xm G xYf I) (some (.int (rRaceW (S ln) n sp fw (I (17 + 2 * i))))) nn (xm G xYf (I)) := by
  obtain ⟨⟨h10, h5⟩, ⟨h11, h6⟩, ⟨h12, hl⟩, hTs, hR⟩ := id hK
  refine XM.of (by decide) (Nat.le_of_ble_eq_true rfl) (L := [(0, .ref (xg G 0)), (1, .ref (xg G (17 + 2 * i))), (2, .int n), (3, .int sp), (4, .int fw)]) rfl ?_
  refine X_knowH (a := 3) rfl (fun f3 hf3 => ?_)
  refine X_knowH (a := 4) rfl (fun f4 hf4 => ?_)
  refine X_iload_n d_X_raceWait_0 rfl rfl ?_
  refine X_iload d_X_raceWait_1 rfl ?_
  refine X_callS (v := .int (xru (fw / 1000) (sp - sp / 10 * 10))) (rest := []) (c_X_raceSeconds l G nn _ (by omega) sp fw) lk_X_raceSeconds ml_X_232 rfl (Nat.le_of_ble_eq_true rfl) (xRok (d' := d - 1) (by omega) (by decide)) ⟨Nat.le_refl _, Nat.le_refl _⟩ d_X_raceWait_3 rfl ?_
  refine X_istore d_X_raceWait_6 (by decide) [1, 2, 3, 4, 5, 0] (L' := [(0, .ref (xg G 0)), (1, .ref (xg G (17 + 2 * i))), (2, .int n), (3, .int sp), (4, .int fw), (5, .int (xru (fw / 1000) (sp - sp / 10 * 10)))]) rfl ?_
  refine X_iload d_X_raceWait_8 rfl ?_
  refine X_callS (v := .int (xb (xin (xru (fw / 1000) (sp - sp / 10 * 10)) 0 60))) (rest := []) (c_X_isSeconds l G nn _ (by omega) (xru (fw / 1000) (sp - sp / 10 * 10))) lk_X_isSeconds ml_X_185 rfl (Nat.le_of_ble_eq_true rfl) (xRok (d' := d - 1) (by omega) (by decide)) ⟨Nat.le_refl _, Nat.le_refl _⟩ d_X_raceWait_10 rfl ?_
  refine X_ifb_ne (tgt := 18) d_X_raceWait_13 (by decide) (fun c_1 => ?_) (fun c_1 => ?_)
  ·
    refine X_aload_n d_X_raceWait_18 rfl rfl ?_
    refine X_getR (r := 4) fg_X_23 (y0 (xYok_4 (xYok_3 xYok_f _) _)) rfl d_X_raceWait_19 ?_
    refine X_aload_n d_X_raceWait_22 rfl rfl ?_
    refine X_callVv (rest := []) (k_Head_become l G nn (xup (xup xYf 3 (some sHead)) 4 (some sHead)) (xup (xup I 3 f3) 4 f4) (by omega) 4 (show (xup (xup xYf 3 (some sHead)) 4 (some sHead)) 4 = some sHead from rfl) (17 + 2 * i) (yH (xYok_4 (xYok_3 xYok_f _) _) (show i < 5 by omega)) (by omega) f4 (I (17 + 2 * i)) (xup_s _ _ _) ((xup_n _ _ (by omega)).trans (xup_n _ _ (by omega))) (hR _ (by omega)) hf4) lk_Head_become ml_X_235 (xm_obj (show (xup (xup xYf 3 (some sHead)) 4 (some sHead)) 4 = some sHead from rfl)) rfl rfl (Nat.le_of_ble_eq_true rfl) (xRok (d' := d - 1) (by omega) (by decide)) ⟨Nat.le_refl _, Nat.le_refl _⟩ d_X_raceWait_23 rfl ?_
    rw [xup_up]
    refine X_aload_n d_X_raceWait_26 rfl rfl ?_
    refine X_getR (r := 4) fg_X_23 (y0 (xYok_4 (xYok_3 xYok_f _) _)) rfl d_X_raceWait_27 ?_
    refine X_callVv (rest := []) (k_Head_standAtStart l G nn (xup (xup xYf 3 (some sHead)) 4 (some sHead)) (xup (xup I 3 f3) 4 (I (17 + 2 * i))) (by omega) 4 (show (xup (xup xYf 3 (some sHead)) 4 (some sHead)) 4 = some sHead from rfl)  (I (17 + 2 * i)) (xup_s _ _ _)) lk_Head_standAtStart ml_X_195 (xm_obj (show (xup (xup xYf 3 (some sHead)) 4 (some sHead)) 4 = some sHead from rfl)) rfl rfl (Nat.le_of_ble_eq_true rfl) (xRok (d' := d - 1) (by omega) (by decide)) ⟨Nat.le_refl _, Nat.le_refl _⟩ d_X_raceWait_30 rfl ?_
    rw [xup_up]
    refine X_aload_n d_X_raceWait_33 rfl rfl ?_
    refine X_getR (r := 4) fg_X_23 (y0 (xYok_4 (xYok_3 xYok_f _) _)) rfl d_X_raceWait_34 ?_
    refine X_aload_n d_X_raceWait_37 rfl rfl ?_
    refine X_callV (v := .ref (xg G (27 + 4 * ln))) (rest := [.ref (xg G 4)]) (c_X_law l G nn (xup (xup xYf 3 (some sHead)) 4 (some sHead)) (xup (xup I 3 f3) 4 (hStd (I (17 + 2 * i)))) (by omega) (xYok_4 (xYok_3 xYok_f _) _) ln (by omega) ((congrFun (xup_n _ _ (by decide)) _).trans ((congrFun (xup_n _ _ (by decide)) _).trans (h12)))) lk_X_law ml_X_120 (xm_obj (y0 (xYok_4 (xYok_3 xYok_f _) _))) rfl rfl (Nat.le_of_ble_eq_true rfl) (xRok (d' := d - 1) (by omega) (by decide)) ⟨Nat.le_refl _, Nat.le_refl _⟩ d_X_raceWait_38 rfl ?_
    refine X_iload_n d_X_raceWait_41 rfl rfl ?_
    refine X_iload_n d_X_raceWait_42 rfl rfl ?_
    refine X_bipush (v := 10) d_X_raceWait_43 rfl ?_
    refine X_idiv d_X_raceWait_45 (by decide) ?_
    refine X_callVv (rest := []) (k_Head_spin l G nn (xup (xup xYf 3 (some sHead)) 4 (some sHead)) (xup (xup I 3 f3) 4 (hStd (I (17 + 2 * i)))) (by omega) 4 (show (xup (xup xYf 3 (some sHead)) 4 (some sHead)) 4 = some sHead from rfl) (27 + 4 * ln) (S ln) (xTx_up (xTx_up (xTx_Y (xYok_4 (xYok_3 xYok_f _) _) (show ln < 6 by omega) (hTs ln hl)) (show (xup (xup xYf 3 (some sHead)) 4 (some sHead)) 3 = some sHead from rfl)) (show (xup (xup xYf 3 (some sHead)) 4 (some sHead)) 4 = some sHead from rfl)) n (sp / 10) hn (hStd (I (17 + 2 * i))) (xup_s _ _ _)) lk_Head_spin ml_X_175 (xm_obj (show (xup (xup xYf 3 (some sHead)) 4 (some sHead)) 4 = some sHead from rfl)) rfl rfl (Nat.le_of_ble_eq_true rfl) (xRok (d' := d - 1) (by omega) (by decide)) ⟨Nat.le_refl _, Nat.le_refl _⟩ d_X_raceWait_46 rfl ?_
    rw [xup_up]
    refine X_iconst (v := 0) d_X_raceWait_49 rfl ?_
    refine X_istore d_X_raceWait_50 (by decide) [1, 2, 3, 4, 5, 6, 0] (L' := [(0, .ref (xg G 0)), (1, .ref (xg G (17 + 2 * i))), (2, .int n), (3, .int sp), (4, .int fw), (5, .int (xru (fw / 1000) (sp - sp / 10 * 10))), (6, .int 0)]) rfl ?_
    refine X_sub [0, 3, 4, 5, 6] (L' := [(0, .ref (xg G 0)), (3, .int sp), (4, .int fw), (5, .int (xru (fw / 1000) (sp - sp / 10 * 10))), (6, .int 0)]) rfl ?_
    exact w_X_raceWait l G nn I (by omega) hc tc ln S hK sp fw (xru (fw / 1000) (sp - sp / 10 * 10)) (xin_nn c_1) _ 61 0 _ _ (hOK_spin _ _ _ (hOK_sd (hR _ (by omega)))) hf3 (by omega) (by simp [rRaceW, c_1])
  ·
    refine X_iconst (v := -1) d_X_raceWait_16 rfl ?_
    exact X_iret rfl (congrArg (fun q => some (Value.int q)) (by simp [rRaceW, c_1])) (xle_34 (fun k hk hk4 => by simp only [xup_n _ _ hk, xup_n _ _ hk4])) d_X_raceWait_17
theorem xrace_n {n sp fw what : Int32} (h : xrace n sp fw what = true) : ¬ xabs n < 0 := by
  simp only [xrace, Bool.and_eq_true] at h
  exact xin_abs h.1.1.1
def aRace (hc : Nat) (L : xSay) (R : Nat → Nat → Int32) (h n sp fw what : Int32) : Int32 := if xin h 0 (nI hc - 1) = true then (if xrace n sp fw what = true then (if rRaceW L n sp fw (R h.toNatClampNeg) < 0 ∨ what = 0 then rRaceW L n sp fw (R h.toNatClampNeg) else rRaceW L n sp fw (R h.toNatClampNeg) + xru (fw / 1000) (sp - sp / 10 * 10)) else -100007) else -100005
theorem c_X_race (l : Launch) (G : xG) {d : Nat} (nn : Nat) (I : xI) (hd : 12 ≤ d) (hc tc ln : Nat) (S : Nat → xSay) (hK : cOK I hc tc ln S) (h n sp fw what : Int32) : XM l G d y_X_race b_X_race 7 (some .int) 0 0 xK0 [.ref (xg G 0), .int h, .int n, .int sp, .int fw, .int what] nn (xm G xYf I) (some (.int (aRace hc (S ln) (fun i => I (17 + 2 * i)) h n sp fw what))) nn (xm G xYf (I)) := by
  obtain ⟨⟨h10, h5⟩, ⟨h11, h6⟩, ⟨h12, hl⟩, hTs, hR⟩ := id hK
  refine XM.of (by decide) (Nat.le_of_ble_eq_true rfl) (L := [(0, .ref (xg G 0)), (1, .int h), (2, .int n), (3, .int sp), (4, .int fw), (5, .int what)]) rfl ?_
  refine X_aload_n d_X_race_0 rfl rfl ?_
  refine X_iload_n d_X_race_1 rfl rfl ?_
  refine X_callV (v := .int (xb (xin h 0 (nI hc - 1)))) (rest := []) (c_X_isHead l G nn xYf I (by omega) xYok_f h (nI hc) (h10)) lk_X_isHead ml_X_113 (xm_obj (y0 xYok_f)) rfl rfl (Nat.le_of_ble_eq_true rfl) (xRok (d' := d - 1) (by omega) (by decide)) ⟨Nat.le_refl _, Nat.le_refl _⟩ d_X_race_2 rfl ?_
  refine X_ifb_ne (tgt := 11) d_X_race_5 (by decide) (fun c_1 => ?_) (fun c_1 => ?_)
  ·
    obtain ⟨i, hi, rfl⟩ := cHead h5 c_1
    refine X_iload_n d_X_race_11 rfl rfl ?_
    refine X_iload_n d_X_race_12 rfl rfl ?_
    refine X_iload d_X_race_13 rfl ?_
    refine X_iload d_X_race_15 rfl ?_
    refine X_callS (v := .int (xb (xrace n sp fw what))) (rest := []) (c_X_isRace l G nn _ (by omega) n sp fw what) lk_X_isRace ml_X_224 rfl (Nat.le_of_ble_eq_true rfl) (xRok (d' := d - 1) (by omega) (by decide)) ⟨Nat.le_refl _, Nat.le_refl _⟩ d_X_race_17 rfl ?_
    refine X_ifb_ne (tgt := 26) d_X_race_20 (by decide) (fun c_2 => ?_) (fun c_2 => ?_)
    ·
      refine X_aload_n d_X_race_26 rfl rfl ?_
      refine X_aload_n d_X_race_27 rfl rfl ?_
      refine X_iload_n d_X_race_28 rfl rfl ?_
      refine X_callV (v := .ref (xg G (17 + 2 * i))) (rest := [.ref (xg G 0)]) (c_X_headAt l G nn xYf I (by omega) xYok_f i (by omega)) lk_X_headAt ml_X_124 (xm_obj (y0 xYok_f)) rfl rfl (Nat.le_of_ble_eq_true rfl) (xRok (d' := d - 1) (by omega) (by decide)) ⟨Nat.le_refl _, Nat.le_refl _⟩ d_X_race_29 rfl ?_
      refine X_iload_n d_X_race_32 rfl rfl ?_
      refine X_iload_n d_X_race_33 rfl rfl ?_
      refine X_iload d_X_race_34 rfl ?_
      refine X_callV (v := .int (rRaceW (S ln) n sp fw (I (17 + 2 * i)))) (rest := []) (c_X_raceWait l G nn I (by omega) hc tc ln S hK i (by omega) n sp fw (xrace_n c_2)) lk_X_raceWait ml_X_228 (xm_obj (y0 xYok_f)) rfl rfl (Nat.le_of_ble_eq_true rfl) (xRok (d' := d - 1) (by omega) (by decide)) ⟨Nat.le_refl _, Nat.le_refl _⟩ d_X_race_36 rfl ?_
      refine X_istore d_X_race_39 (by decide) [1, 2, 3, 4, 5, 6, 0] (L' := [(0, .ref (xg G 0)), (1, .int (nI i)), (2, .int n), (3, .int sp), (4, .int fw), (5, .int what), (6, .int (rRaceW (S ln) n sp fw (I (17 + 2 * i))))]) rfl ?_
      refine X_iload d_X_race_41 rfl ?_
      refine X_if_lt (tgt := 51) d_X_race_43 (by decide) (fun c_3 => ?_) (fun c_3 => ?_)
      ·
        refine X_iload d_X_race_51 rfl ?_
        refine X_goto (tgt := 65) d_X_race_53 (by decide) ?_
        exact X_iret rfl (congrArg (fun q => some (Value.int q)) (by first | (simp [aRace, c_1, nI_cl (show i < 2 ^ 31 by omega), c_2, c_3, Int32.not_le.mpr c_3, xl_1_0, xl_1_1, xl_2_0, xl_2_1, xl_2_2, xl_3_0, xl_3_1, xl_3_2, xl_3_3]; done) | (exfalso; simp_all; done) | (clear hTs hR hK; simp_all [aRace, nI_cl (show i < 2 ^ 31 by omega)]; done))) (xle_rf _) d_X_race_65
      ·
        refine X_iload d_X_race_46 rfl ?_
        refine X_if_ne (tgt := 56) d_X_race_48 (by decide) (fun c_4 => ?_) (fun c_4 => ?_)
        ·
          refine X_iload d_X_race_56 rfl ?_
          refine X_iload_n d_X_race_58 rfl rfl ?_
          refine X_iload d_X_race_59 rfl ?_
          refine X_callS (v := .int (xru (fw / 1000) (sp - sp / 10 * 10))) (rest := [.int (rRaceW (S ln) n sp fw (I (17 + 2 * i)))]) (c_X_raceSeconds l G nn _ (by omega) sp fw) lk_X_raceSeconds ml_X_232 rfl (Nat.le_of_ble_eq_true rfl) (xRok (d' := d - 1) (by omega) (by decide)) ⟨Nat.le_refl _, Nat.le_refl _⟩ d_X_race_61 rfl ?_
          refine X_iadd d_X_race_64 ?_
          exact X_iret rfl (congrArg (fun q => some (Value.int q)) (by first | (simp [aRace, c_1, nI_cl (show i < 2 ^ 31 by omega), c_2, c_3, Int32.not_lt.mp c_3, c_4, xl_1_0, xl_1_1, xl_2_0, xl_2_1, xl_2_2, xl_3_0, xl_3_1, xl_3_2, xl_3_3]; done) | (exfalso; simp_all; done) | (clear hTs hR hK; simp_all [aRace, nI_cl (show i < 2 ^ 31 by omega)]; done))) (xle_rf _) d_X_race_65
        ·
          refine X_iload d_X_race_51 rfl ?_
          refine X_goto (tgt := 65) d_X_race_53 (by decide) ?_
          exact X_iret rfl (congrArg (fun q => some (Value.int q)) (by first | (simp [aRace, c_1, nI_cl (show i < 2 ^ 31 by omega), c_2, c_3, Int32.not_lt.mp c_3, c_4, xl_1_0, xl_1_1, xl_2_0, xl_2_1, xl_2_2, xl_3_0, xl_3_1, xl_3_2, xl_3_3]; done) | (exfalso; simp_all; done) | (clear hTs hR hK; simp_all [aRace, nI_cl (show i < 2 ^ 31 by omega)]; done))) (xle_rf _) d_X_race_65
    ·
      refine X_ldc cs_X_149 d_X_race_23 ?_
      exact X_iret rfl (congrArg (fun q => some (Value.int q)) (by first | (simp [aRace, c_1, nI_cl (show i < 2 ^ 31 by omega), c_2, xl_1_0, xl_1_1, xl_2_0, xl_2_1, xl_2_2, xl_3_0, xl_3_1, xl_3_2, xl_3_3]; done) | (exfalso; simp_all; done) | (clear hTs hR hK; simp_all [aRace, nI_cl (show i < 2 ^ 31 by omega)]; done))) (xle_rf _) d_X_race_25
  ·
    refine X_ldc cs_X_139 d_X_race_8 ?_
    exact X_iret rfl (congrArg (fun q => some (Value.int q)) (by first | (simp [aRace, c_1, xl_1_0, xl_1_1, xl_2_0, xl_2_1, xl_2_2, xl_3_0, xl_3_1, xl_3_2, xl_3_3]; done) | (exfalso; simp_all; done) | (clear hTs hR hK; simp_all [aRace]; done))) (xle_rf _) d_X_race_10
def sWins (W : Nat → Int32) : Nat → Nat → Int32 → Int32 → Int32 × Int32
  | 0, _, win, least => (win, least)
  | k + 1, h, win, least => if 0 ≤ W h ∧ (win < 0 ∨ W h < least) then sWins W k (h + 1) (nI h) (W h) else sWins W k (h + 1) win least
def rWins (what sec : Int32) (p : Int32 × Int32) : Int32 := if p.1 < 0 ∨ what = 0 then p.1 else p.2 + sec
def aWins (hc : Nat) (L : xSay) (R : Nat → Nat → Int32) (n sp fw what : Int32) : Int32 := if xrace n sp fw what = true then rWins what (xru (fw / 1000) (sp - sp / 10 * 10)) (sWins (fun h => rRaceW L n sp fw (R h)) hc 0 (-1) (-1)) else -100007
def Q_X_wins (l : Launch) (G : xG) (d nn : Nat) (I : xI) (ln : Nat) (S : Nat → xSay) (n : Int32) (sp : Int32) (fw : Int32) (what : Int32) (r : Int32) (h : Nat) (win : Int32) (least : Int32) : Prop := XW l G (xR d 0 0) y_X_wins b_X_wins 9 (some .int) xK0 (xZ G nn (xm G xYf (I)) (some (.int r)) 0 0) nn (xm G xYf (I)) 0 0 23 [(0, .ref (xg G 0)), (1, .int n), (2, .int sp), (3, .int fw), (4, .int what), (5, .int win), (6, .int least), (7, .int (nI h))] []
theorem w_X_wins (l : Launch) (G : xG) {d : Nat} (nn : Nat) (I : xI) (hd : 12 ≤ d) (hc tc ln : Nat) (S : Nat → xSay) (hK : cOK I hc tc ln S) (n : Int32) (sp : Int32) (fw : Int32) (what : Int32) (hn : ¬ xabs n < 0) (r : Int32) : ∀ (k h : Nat) (win : Int32) (least : Int32), h + k = hc → r = rWins what (xru (fw / 1000) (sp - sp / 10 * 10)) (sWins (fun h => rRaceW (S ln) n sp fw (I (17 + 2 * h))) k h win least) → Q_X_wins l G d nn I ln S n sp fw what r h win least := by
  obtain ⟨⟨h10, h5⟩, ⟨h11, h6⟩, ⟨h12, hl⟩, hTs, hR⟩ := id hK
  intro k
  induction k with
  | zero =>
    intro h win least hk hr
    unfold Q_X_wins
    refine X_iload d_X_wins_23 rfl ?_
    refine X_aload_n d_X_wins_25 rfl rfl ?_
    refine X_getI (v := nI hc) fg_X_59 (y0 xYok_f) rfl (h10) d_X_wins_26 ?_
    refine X_icmp_ge (tgt := 78) d_X_wins_29 (by decide) (fun _ => ?_) (fun c_1 => absurd c_1 (not_not_intro (show nI hc ≤ nI h from nI_le (by omega) (by omega))))
    refine X_iload d_X_wins_78 rfl ?_
    refine X_if_lt (tgt := 88) d_X_wins_80 (by decide) (fun c_2 => ?_) (fun c_2 => ?_)
    ·
      refine X_iload d_X_wins_88 rfl ?_
      refine X_goto (tgt := 101) d_X_wins_90 (by decide) ?_
      exact X_iret rfl (congrArg (fun q => some (Value.int q)) (by rw [hr]; simp [sWins, rWins, c_2, Int32.not_le.mpr c_2])) (xle_rf _) d_X_wins_101
    ·
      refine X_iload d_X_wins_83 rfl ?_
      refine X_if_ne (tgt := 93) d_X_wins_85 (by decide) (fun c_3 => ?_) (fun c_3 => ?_)
      ·
        refine X_iload d_X_wins_93 rfl ?_
        refine X_iload_n d_X_wins_95 rfl rfl ?_
        refine X_iload_n d_X_wins_96 rfl rfl ?_
        refine X_callS (v := .int (xru (fw / 1000) (sp - sp / 10 * 10))) (rest := [.int least]) (c_X_raceSeconds l G nn _ (by omega) sp fw) lk_X_raceSeconds ml_X_232 rfl (Nat.le_of_ble_eq_true rfl) (xRok (d' := d - 1) (by omega) (by decide)) ⟨Nat.le_refl _, Nat.le_refl _⟩ d_X_wins_97 rfl ?_
        refine X_iadd d_X_wins_100 ?_
        exact X_iret rfl (congrArg (fun q => some (Value.int q)) (by rw [hr]; simp [sWins, rWins, c_2, Int32.not_lt.mp c_2, c_3])) (xle_rf _) d_X_wins_101
      ·
        refine X_iload d_X_wins_88 rfl ?_
        refine X_goto (tgt := 101) d_X_wins_90 (by decide) ?_
        exact X_iret rfl (congrArg (fun q => some (Value.int q)) (by rw [hr]; simp [sWins, rWins, c_2, Int32.not_lt.mp c_2, c_3])) (xle_rf _) d_X_wins_101
  | succ k ih =>
    intro h win least hk hr
    unfold Q_X_wins
    refine X_iload d_X_wins_23 rfl ?_
    refine X_aload_n d_X_wins_25 rfl rfl ?_
    refine X_getI (v := nI hc) fg_X_59 (y0 xYok_f) rfl (h10) d_X_wins_26 ?_
    refine X_icmp_ge (tgt := 78) d_X_wins_29 (by decide) (fun c_1 => absurd c_1 (show ¬ nI hc ≤ nI h from nI_ge (by omega) (by omega))) (fun _ => ?_)
    refine X_aload_n d_X_wins_32 rfl rfl ?_
    refine X_aload_n d_X_wins_33 rfl rfl ?_
    refine X_iload d_X_wins_34 rfl ?_
    refine X_callV (v := .ref (xg G (17 + 2 * h))) (rest := [.ref (xg G 0)]) (c_X_headAt l G nn xYf I (by omega) xYok_f h (by omega)) lk_X_headAt ml_X_124 (xm_obj (y0 xYok_f)) rfl rfl (Nat.le_of_ble_eq_true rfl) (xRok (d' := d - 1) (by omega) (by decide)) ⟨Nat.le_refl _, Nat.le_refl _⟩ d_X_wins_36 rfl ?_
    refine X_iload_n d_X_wins_39 rfl rfl ?_
    refine X_iload_n d_X_wins_40 rfl rfl ?_
    refine X_iload_n d_X_wins_41 rfl rfl ?_
    refine X_callV (v := .int (rRaceW (S ln) n sp fw (I (17 + 2 * h)))) (rest := []) (c_X_raceWait l G nn I (by omega) hc tc ln S hK h (by omega) n sp fw (by first | assumption | decide | grind)) lk_X_raceWait ml_X_228 (xm_obj (y0 xYok_f)) rfl rfl (Nat.le_of_ble_eq_true rfl) (xRok (d' := d - 1) (by omega) (by decide)) ⟨Nat.le_refl _, Nat.le_refl _⟩ d_X_wins_42 rfl ?_
    refine X_istore d_X_wins_45 (by decide) [1, 2, 3, 4, 5, 6, 7, 8, 0] (L' := [(0, .ref (xg G 0)), (1, .int n), (2, .int sp), (3, .int fw), (4, .int what), (5, .int win), (6, .int least), (7, .int (nI h)), (8, .int (rRaceW (S ln) n sp fw (I (17 + 2 * h))))]) rfl ?_
    refine X_iload d_X_wins_47 rfl ?_
    refine X_if_lt (tgt := 72) d_X_wins_49 (by decide) (fun c_2 => ?_) (fun c_2 => ?_)
    ·
      refine X_iinc d_X_wins_72 rfl (v := (nI h) + 1) rfl (by decide) [1, 2, 3, 4, 5, 6, 7, 0, 8] (L' := [(0, .ref (xg G 0)), (1, .int n), (2, .int sp), (3, .int fw), (4, .int what), (5, .int win), (6, .int least), (7, .int ((nI h) + 1)), (8, .int (rRaceW (S ln) n sp fw (I (17 + 2 * h))))]) rfl ?_
      refine X_goto (tgt := 23) d_X_wins_75 (by decide) ?_
      refine X_sub [0, 1, 2, 3, 4, 5, 6, 7] (L' := [(0, .ref (xg G 0)), (1, .int n), (2, .int sp), (3, .int fw), (4, .int what), (5, .int win), (6, .int least), (7, .int ((nI h) + 1))]) rfl ?_
      simp only [nI_1]
      exact ih (h + 1) _ _ (by omega) (by rw [hr]; simp [sWins, rWins, c_2, Int32.not_le.mpr c_2])
    ·
      refine X_iload d_X_wins_52 rfl ?_
      refine X_if_lt (tgt := 64) d_X_wins_54 (by decide) (fun c_3 => ?_) (fun c_3 => ?_)
      ·
        refine X_iload d_X_wins_64 rfl ?_
        refine X_istore d_X_wins_66 (by decide) [1, 2, 3, 4, 5, 0, 6, 7, 8] (L' := [(0, .ref (xg G 0)), (1, .int n), (2, .int sp), (3, .int fw), (4, .int what), (5, .int (nI h)), (6, .int least), (7, .int (nI h)), (8, .int (rRaceW (S ln) n sp fw (I (17 + 2 * h))))]) rfl ?_
        refine X_iload d_X_wins_68 rfl ?_
        refine X_istore d_X_wins_70 (by decide) [1, 2, 3, 4, 5, 6, 0, 7, 8] (L' := [(0, .ref (xg G 0)), (1, .int n), (2, .int sp), (3, .int fw), (4, .int what), (5, .int (nI h)), (6, .int (rRaceW (S ln) n sp fw (I (17 + 2 * h)))), (7, .int (nI h)), (8, .int (rRaceW (S ln) n sp fw (I (17 + 2 * h))))]) rfl ?_
        refine X_iinc d_X_wins_72 rfl (v := (nI h) + 1) rfl (by decide) [1, 2, 3, 4, 5, 6, 7, 0, 8] (L' := [(0, .ref (xg G 0)), (1, .int n), (2, .int sp), (3, .int fw), (4, .int what), (5, .int (nI h)), (6, .int (rRaceW (S ln) n sp fw (I (17 + 2 * h)))), (7, .int ((nI h) + 1)), (8, .int (rRaceW (S ln) n sp fw (I (17 + 2 * h))))]) rfl ?_
        refine X_goto (tgt := 23) d_X_wins_75 (by decide) ?_
        refine X_sub [0, 1, 2, 3, 4, 5, 6, 7] (L' := [(0, .ref (xg G 0)), (1, .int n), (2, .int sp), (3, .int fw), (4, .int what), (5, .int (nI h)), (6, .int (rRaceW (S ln) n sp fw (I (17 + 2 * h)))), (7, .int ((nI h) + 1))]) rfl ?_
        simp only [nI_1]
        exact ih (h + 1) _ _ (by omega) (by rw [hr]; simp [sWins, rWins, c_2, Int32.not_lt.mp c_2, c_3, Int32.not_le.mpr c_3])
      ·
        refine X_iload d_X_wins_57 rfl ?_
        refine X_iload d_X_wins_59 rfl ?_
        refine X_icmp_ge (tgt := 72) d_X_wins_61 (by decide) (fun c_4 => ?_) (fun c_4 => ?_)
        ·
          refine X_iinc d_X_wins_72 rfl (v := (nI h) + 1) rfl (by decide) [1, 2, 3, 4, 5, 6, 7, 0, 8] (L' := [(0, .ref (xg G 0)), (1, .int n), (2, .int sp), (3, .int fw), (4, .int what), (5, .int win), (6, .int least), (7, .int ((nI h) + 1)), (8, .int (rRaceW (S ln) n sp fw (I (17 + 2 * h))))]) rfl ?_
          refine X_goto (tgt := 23) d_X_wins_75 (by decide) ?_
          refine X_sub [0, 1, 2, 3, 4, 5, 6, 7] (L' := [(0, .ref (xg G 0)), (1, .int n), (2, .int sp), (3, .int fw), (4, .int what), (5, .int win), (6, .int least), (7, .int ((nI h) + 1))]) rfl ?_
          simp only [nI_1]
          exact ih (h + 1) _ _ (by omega) (by rw [hr]; simp [sWins, rWins, c_2, Int32.not_lt.mp c_2, c_3, Int32.not_lt.mp c_3, c_4, Int32.not_lt.mpr c_4])
        ·
          refine X_iload d_X_wins_64 rfl ?_
          refine X_istore d_X_wins_66 (by decide) [1, 2, 3, 4, 5, 0, 6, 7, 8] (L' := [(0, .ref (xg G 0)), (1, .int n), (2, .int sp), (3, .int fw), (4, .int what), (5, .int (nI h)), (6, .int least), (7, .int (nI h)), (8, .int (rRaceW (S ln) n sp fw (I (17 + 2 * h))))]) rfl ?_
          refine X_iload d_X_wins_68 rfl ?_
          refine X_istore d_X_wins_70 (by decide) [1, 2, 3, 4, 5, 6, 0, 7, 8] (L' := [(0, .ref (xg G 0)), (1, .int n), (2, .int sp), (3, .int fw), (4, .int what), (5, .int (nI h)), (6, .int (rRaceW (S ln) n sp fw (I (17 + 2 * h)))), (7, .int (nI h)), (8, .int (rRaceW (S ln) n sp fw (I (17 + 2 * h))))]) rfl ?_
          refine X_iinc d_X_wins_72 rfl (v := (nI h) + 1) rfl (by decide) [1, 2, 3, 4, 5, 6, 7, 0, 8] (L' := [(0, .ref (xg G 0)), (1, .int n), (2, .int sp), (3, .int fw), (4, .int what), (5, .int (nI h)), (6, .int (rRaceW (S ln) n sp fw (I (17 + 2 * h)))), (7, .int ((nI h) + 1)), (8, .int (rRaceW (S ln) n sp fw (I (17 + 2 * h))))]) rfl ?_
          refine X_goto (tgt := 23) d_X_wins_75 (by decide) ?_
          refine X_sub [0, 1, 2, 3, 4, 5, 6, 7] (L' := [(0, .ref (xg G 0)), (1, .int n), (2, .int sp), (3, .int fw), (4, .int what), (5, .int (nI h)), (6, .int (rRaceW (S ln) n sp fw (I (17 + 2 * h)))), (7, .int ((nI h) + 1))]) rfl ?_
          simp only [nI_1]
          exact ih (h + 1) _ _ (by omega) (by rw [hr]; simp [sWins, rWins, c_2, Int32.not_lt.mp c_2, c_3, Int32.not_lt.mp c_3, c_4, Int32.not_le.mp c_4])
theorem c_X_wins (l : Launch) (G : xG) {d : Nat} (nn : Nat) (I : xI) (hd : 13 ≤ d) (hc tc ln : Nat) (S : Nat → xSay) (hK : cOK I hc tc ln S) (n sp fw what : Int32) : XM l G d y_X_wins b_X_wins 9 (some .int) 0 0 xK0 [.ref (xg G 0), .int n, .int sp, .int fw, .int what] nn (xm G xYf I) (some (.int (aWins hc (S ln) (fun i => I (17 + 2 * i)) n sp fw what))) nn (xm G xYf (I)) := by
  obtain ⟨⟨h10, h5⟩, ⟨h11, h6⟩, ⟨h12, hl⟩, hTs, hR⟩ := id hK
  refine XM.of (by decide) (Nat.le_of_ble_eq_true rfl) (L := [(0, .ref (xg G 0)), (1, .int n), (2, .int sp), (3, .int fw), (4, .int what)]) rfl ?_
  refine X_iload_n d_X_wins_0 rfl rfl ?_
  refine X_iload_n d_X_wins_1 rfl rfl ?_
  refine X_iload_n d_X_wins_2 rfl rfl ?_
  refine X_iload d_X_wins_3 rfl ?_
  refine X_callS (v := .int (xb (xrace n sp fw what))) (rest := []) (c_X_isRace l G nn _ (by omega) n sp fw what) lk_X_isRace ml_X_224 rfl (Nat.le_of_ble_eq_true rfl) (xRok (d' := d - 1) (by omega) (by decide)) ⟨Nat.le_refl _, Nat.le_refl _⟩ d_X_wins_5 rfl ?_
  refine X_ifb_ne (tgt := 14) d_X_wins_8 (by decide) (fun c_1 => ?_) (fun c_1 => ?_)
  ·
    refine X_iconst (v := -1) d_X_wins_14 rfl ?_
    refine X_istore d_X_wins_15 (by decide) [1, 2, 3, 4, 5, 0] (L' := [(0, .ref (xg G 0)), (1, .int n), (2, .int sp), (3, .int fw), (4, .int what), (5, .int (-1))]) rfl ?_
    refine X_iconst (v := -1) d_X_wins_17 rfl ?_
    refine X_istore d_X_wins_18 (by decide) [1, 2, 3, 4, 5, 6, 0] (L' := [(0, .ref (xg G 0)), (1, .int n), (2, .int sp), (3, .int fw), (4, .int what), (5, .int (-1)), (6, .int (-1))]) rfl ?_
    refine X_iconst (v := 0) d_X_wins_20 rfl ?_
    refine X_istore d_X_wins_21 (by decide) [1, 2, 3, 4, 5, 6, 7, 0] (L' := [(0, .ref (xg G 0)), (1, .int n), (2, .int sp), (3, .int fw), (4, .int what), (5, .int (-1)), (6, .int (-1)), (7, .int 0)]) rfl ?_
    exact w_X_wins l G nn I (by omega) hc tc ln S hK n sp fw what (xrace_n c_1) _ hc 0 _ _ (by omega) (by simp [aWins, c_1])
  ·
    refine X_ldc cs_X_149 d_X_wins_11 ?_
    exact X_iret rfl (congrArg (fun q => some (Value.int q)) (by first | (simp [aWins, c_1, xl_1_0, xl_1_1, xl_2_0, xl_2_1, xl_2_2, xl_3_0, xl_3_1, xl_3_2, xl_3_3]; done) | (exfalso; simp_all; done) | (clear hTs hR hK; simp_all [aWins]; done))) (xle_rf _) d_X_wins_13
