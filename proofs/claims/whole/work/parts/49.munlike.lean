def mFO (L : xSay) (pace : Int32) (g : Nat → Int32) : Nat → Nat → (Nat → Int32) → Int32 → Int32
  | 0, _, _, e => e
  | k + 1, i, f, e => if g i = hStep L pace 1 f 6 then mFO L pace g k (i + 1) (hStep L pace 1 f) (mE f e (nI i)) else mE f e (nI i)
def mTold (hc : Nat) (srt : Nat → Int32) (s h n sp : Int32) : Int32 := if rSheet srt s = 0 then (if xin h 0 (nI hc - 1) = true then (if xin n (-40) 40 = true ∧ xsp sp = true then 0 else -7) else -5) else rSheet srt s
theorem xsp_s {v : Int32} (h : xsp v = true) : ¬ v / 10 < 0 ∧ v / 10 ≤ 9 := by
  rw [xsp, Bool.and_eq_true, Bool.and_eq_true] at h
  have := xin_sp h.1.2
  exact this
theorem c_Model_toldWrong (l : Launch) (G : xG) {d : Nat} (nn : Nat) (hd : 4 ≤ d) (I : xI) (hc tc ln : Nat) (SS : Nat → xSay) (hK0 : mOK I hc tc ln SS) (s h n sp : Int32) : XM l G d y_Model_toldWrong b_Model_toldWrong 6 (some .int) 0 0 xK0 [.ref (xg G 59), .int s, .int h, .int n, .int sp] nn (xm G xYf I) (some (.int (mTold hc (I 67) s h n sp))) nn (xm G xYf (I)) := by
  obtain ⟨⟨h0, h5⟩, ⟨h8, h6⟩, ⟨h9, hl⟩, hTs, hR⟩ := id hK0
  have hK : mK I ln (SS ln) := ⟨hTs ln hl, h9, by omega⟩
  generalize hSS : SS ln = S at hK ⊢
  refine XM.of (by decide) (Nat.le_of_ble_eq_true rfl) (L := [(0, .ref (xg G 59)), (1, .int s), (2, .int h), (3, .int n), (4, .int sp)]) rfl ?_
  refine X_aload_n d_Model_toldWrong_0 rfl rfl ?_
  refine X_iload_n d_Model_toldWrong_1 rfl rfl ?_
  refine X_callV (v := .int (rSheet (I 67) s)) (rest := []) (c_Model_sheetWrong l G nn (by omega) I hc tc ln SS hK0 s) lk_Model_sheetWrong ml_Model_234 (xm_obj (show xYf 59 = some sModel from rfl)) rfl rfl (Nat.le_of_ble_eq_true rfl) (xRok (d' := d - 1) (by omega) (by decide)) ⟨Nat.le_refl _, Nat.le_refl _⟩ d_Model_toldWrong_2 rfl ?_
  refine X_istore d_Model_toldWrong_5 (by decide) [1, 2, 3, 4, 5, 0] (L' := [(0, .ref (xg G 59)), (1, .int s), (2, .int h), (3, .int n), (4, .int sp), (5, .int (rSheet (I 67) s))]) rfl ?_
  refine X_iload d_Model_toldWrong_7 rfl ?_
  refine X_if_eq (tgt := 15) d_Model_toldWrong_9 (by decide) (fun c_1 => ?_) (fun c_1 => ?_)
  ·
    refine X_aload_n d_Model_toldWrong_15 rfl rfl ?_
    refine X_iload_n d_Model_toldWrong_16 rfl rfl ?_
    refine X_callV (v := .int (xb (xin h 0 (nI hc - 1)))) (rest := []) (c_Model_isHead l G nn (by omega) I hc tc ln SS hK0 h) lk_Model_isHead ml_Model_149 (xm_obj (show xYf 59 = some sModel from rfl)) rfl rfl (Nat.le_of_ble_eq_true rfl) (xRok (d' := d - 1) (by omega) (by decide)) ⟨Nat.le_refl _, Nat.le_refl _⟩ d_Model_toldWrong_17 rfl ?_
    refine X_ifb_ne (tgt := 28) d_Model_toldWrong_20 (by decide) (fun c_2 => ?_) (fun c_2 => ?_)
    ·
      obtain ⟨i, hi, rfl⟩ := cHead h5 c_2
      refine X_iload_n d_Model_toldWrong_28 rfl rfl ?_
      refine X_callS (v := .int (xb (xin n (-40) 40))) (rest := []) (c_Model_isTurned l G nn _ (by omega) n) lk_Model_isTurned ml_Model_193 rfl (Nat.le_of_ble_eq_true rfl) (xRok (d' := d - 1) (by omega) (by decide)) ⟨Nat.le_refl _, Nat.le_refl _⟩ d_Model_toldWrong_29 rfl ?_
      refine X_ifb_eq (tgt := 47) d_Model_toldWrong_32 (by decide) (fun c_3 => ?_) (fun c_3 => ?_)
      ·
        refine X_bipush (v := -7) d_Model_toldWrong_47 rfl ?_
        exact X_iret rfl (congrArg (fun q => some (Value.int q)) (by subst hSS; first | (simp [mTold, c_1, c_2, nI_cl (show i < 2 ^ 31 by omega), c_3, xl_1_0, xl_1_1, xl_2_0, xl_2_1, xl_2_2, xl_3_0, xl_3_1, xl_3_2, xl_3_3]; done) | (exfalso; simp_all; done) | (clear hTs hR hK0 hK; simp_all [mTold, nI_cl (show i < 2 ^ 31 by omega)]; done))) (xle_rf _) d_Model_toldWrong_49
      ·
        refine X_iload d_Model_toldWrong_35 rfl ?_
        refine X_callS (v := .int (xb (xsp sp))) (rest := []) (k_Model_areDigits l G nn _ (by omega) sp) lk_Model_areDigits ml_Model_215 rfl (Nat.le_of_ble_eq_true rfl) (xRok (d' := d - 1) (by omega) (by decide)) ⟨Nat.le_refl _, Nat.le_refl _⟩ d_Model_toldWrong_37 rfl ?_
        refine X_ifb_eq (tgt := 47) d_Model_toldWrong_40 (by decide) (fun c_4 => ?_) (fun c_4 => ?_)
        ·
          refine X_bipush (v := -7) d_Model_toldWrong_47 rfl ?_
          exact X_iret rfl (congrArg (fun q => some (Value.int q)) (by subst hSS; first | (simp [mTold, c_1, c_2, nI_cl (show i < 2 ^ 31 by omega), c_3, c_4, xl_1_0, xl_1_1, xl_2_0, xl_2_1, xl_2_2, xl_3_0, xl_3_1, xl_3_2, xl_3_3]; done) | (exfalso; simp_all; done) | (clear hTs hR hK0 hK; simp_all [mTold, nI_cl (show i < 2 ^ 31 by omega)]; done))) (xle_rf _) d_Model_toldWrong_49
        ·
          refine X_iconst (v := 0) d_Model_toldWrong_43 rfl ?_
          refine X_goto (tgt := 49) d_Model_toldWrong_44 (by decide) ?_
          exact X_iret rfl (congrArg (fun q => some (Value.int q)) (by subst hSS; first | (simp [mTold, c_1, c_2, nI_cl (show i < 2 ^ 31 by omega), c_3, c_4, xl_1_0, xl_1_1, xl_2_0, xl_2_1, xl_2_2, xl_3_0, xl_3_1, xl_3_2, xl_3_3]; done) | (exfalso; simp_all; done) | (clear hTs hR hK0 hK; simp_all [mTold, nI_cl (show i < 2 ^ 31 by omega)]; done))) (xle_rf _) d_Model_toldWrong_49
    ·
      refine X_bipush (v := -5) d_Model_toldWrong_23 rfl ?_
      refine X_goto (tgt := 49) d_Model_toldWrong_25 (by decide) ?_
      exact X_iret rfl (congrArg (fun q => some (Value.int q)) (by subst hSS; first | (simp [mTold, c_1, c_2, xl_1_0, xl_1_1, xl_2_0, xl_2_1, xl_2_2, xl_3_0, xl_3_1, xl_3_2, xl_3_3]; done) | (exfalso; simp_all; done) | (clear hTs hR hK0 hK; simp_all [mTold]; done))) (xle_rf _) d_Model_toldWrong_49
  ·
    refine X_iload d_Model_toldWrong_12 rfl ?_
    exact X_iret rfl (congrArg (fun q => some (Value.int q)) (by subst hSS; first | (simp [mTold, c_1, xl_1_0, xl_1_1, xl_2_0, xl_2_1, xl_2_2, xl_3_0, xl_3_1, xl_3_2, xl_3_3]; done) | (exfalso; simp_all; done) | (clear hTs hR hK0 hK; simp_all [mTold]; done))) (xle_rf _) d_Model_toldWrong_14
def Q_Model_unlike (l : Launch) (G : xG) (d nn : Nat) (I : xI) (q i : Nat) (S : xSay) (n sp : Int32) (N k : Nat) (f : Nat → Int32) (e : Int32) : Prop := XW l G (xR d 0 0) y_Model_unlike b_Model_unlike 6 (some .int) xK0 (xZ G nn (xm G xYf (xup I 59 (sc (I 59) ((sFO S (sp - sp / 10 * 10) (fun k => I 69 (40 * q + k)) (N - k) k f).2) (mFO S (sp - sp / 10 * 10) (fun k => I 69 (40 * q + k)) (N - k) k f e)))) (some (.int (sFO S (sp - sp / 10 * 10) (fun k => I 69 (40 * q + k)) (N - k) k f).1)) 0 0) nn (xm G xYf (xup I 59 (sc (I 59) f e))) 0 0 21 [(0, .ref (xg G 59)), (1, .int (nI q)), (2, .int (nI i)), (3, .int n), (4, .int sp), (5, .int (nI k))] []
theorem w_Model_unlike (l : Launch) (G : xG) {d : Nat} (nn : Nat) (hd : 7 ≤ d) (I : xI) (ln i q : Nat) (S : xSay) (hK : mK I ln S) (hi : i < 5) (hq : q < 4) (n sp : Int32) (N : Nat) (hN : N ≤ 40) (hsz : I 68 q = nI N) (k : Nat) (hk : k ≤ N) (ih : k < N → ∀ f e, mRec I i f → (f 7 = 0 ∨ f 7 = 1) → Q_Model_unlike l G d nn I q i S n sp N (k + 1) f e) (f : Nat → Int32) (e : Int32) (hf : mRec I i f) (h7 : f 7 = 0 ∨ f 7 = 1) : Q_Model_unlike l G d nn I q i S n sp N k f e := by
  unfold Q_Model_unlike
  refine X_iload d_Model_unlike_21 rfl ?_
  refine X_aload_n d_Model_unlike_23 rfl rfl ?_
  refine X_getR (r := 68) fg_Model_34 (show xYf 59 = some sModel from rfl) rfl d_Model_unlike_24 ?_
  refine X_iload_n d_Model_unlike_27 rfl rfl ?_
  refine X_aldI (v := nI N) (show xYf 68 = some (sInts 4) from rfl) (ixin (show nI q = nI q from rfl) (show q < 4 by omega) (by decide)) ((ixv (show nI q = nI q from rfl) (show q < 2 ^ 31 by omega) ((congrFun (xup_n _ _ (by decide)) _).trans (hsz)))) d_Model_unlike_28 ?_
  refine X_icmp_ge (tgt := 73) d_Model_unlike_29 (by decide) (fun c_1 => ?_) (fun c_1 => ?_)
  ·
    refine X_iconst (v := -1) d_Model_unlike_73 rfl ?_
    have hz : N - k = 0 := by have := nI_done hk (by omega) c_1; omega
    rw [hz]
    exact X_iret rfl rfl (xle_rf _) d_Model_unlike_74
  ·
    have hlt : k < N := nI_more hk (by omega) c_1
    have hz : N - k = (N - (k + 1)) + 1 := by omega
    refine X_aload_n d_Model_unlike_32 rfl rfl ?_
    refine X_iload_n d_Model_unlike_33 rfl rfl ?_
    refine X_iload d_Model_unlike_34 rfl ?_
    refine X_bipush (v := 10) d_Model_unlike_36 rfl ?_
    refine X_irem d_Model_unlike_38 (by decide) ?_
    refine X_iconst (v := 1) d_Model_unlike_39 rfl ?_
    refine X_iload d_Model_unlike_40 rfl ?_
    refine X_callVv (rest := []) (c_Model_step l G nn (by omega) I ln i S hK (by omega) f hf e (sp - sp / 10 * 10) 1 (nI k) h7) lk_Model_step ml_Model_189 (xm_obj (show xYf 59 = some sModel from rfl)) rfl rfl (Nat.le_of_ble_eq_true rfl) (xRok (d' := d - 1) (by omega) (by decide)) ⟨Nat.le_refl _, Nat.le_refl _⟩ d_Model_unlike_42 rfl ?_
    refine X_aload_n d_Model_unlike_45 rfl rfl ?_
    refine X_getR (r := 69) fg_Model_37 (show xYf 59 = some sModel from rfl) rfl d_Model_unlike_46 ?_
    refine X_bipush (v := 40) d_Model_unlike_49 rfl ?_
    refine X_iload_n d_Model_unlike_51 rfl rfl ?_
    refine X_imul d_Model_unlike_52 ?_
    refine X_iload d_Model_unlike_53 rfl ?_
    refine X_iadd d_Model_unlike_55 ?_
    refine X_aldI (v := I 69 (40 * q + k)) (show xYf 69 = some (sInts 160) from rfl) (ixin (ixA (ixM (show (40 : Int32) = nI 40 from rfl) (show nI q = nI q from rfl)) (show nI k = nI k from rfl)) (show 40 * q + k < 160 by omega) (by decide)) ((ixv (ixA (ixM (show (40 : Int32) = nI 40 from rfl) (show nI q = nI q from rfl)) (show nI k = nI k from rfl)) (show 40 * q + k < 2 ^ 31 by omega) (congrFun (xup_n _ _ (by decide)) _))) d_Model_unlike_56 ?_
    refine X_aload_n d_Model_unlike_57 rfl rfl ?_
    refine X_getI (v := (hStep S (sp - sp / 10 * 10) 1 f) 6) fg_Model_186 (show xYf 59 = some sModel from rfl) rfl ((congrFun (xup_s _ _ _) _).trans (sc_31 _ _ _)) d_Model_unlike_58 ?_
    refine X_icmp_eq (tgt := 67) d_Model_unlike_61 (by decide) (fun c_2 => ?_) (fun c_2 => ?_)
    ·
      refine X_iinc d_Model_unlike_67 rfl (v := (nI k) + 1) rfl (by decide) [1, 2, 3, 4, 5, 0] (L' := [(0, .ref (xg G 59)), (1, .int (nI q)), (2, .int (nI i)), (3, .int n), (4, .int sp), (5, .int ((nI k) + 1))]) rfl ?_
      refine X_goto (tgt := 21) d_Model_unlike_70 (by decide) ?_
      have key := ih hlt (hStep S (sp - sp / 10 * 10) 1 f) (mE f e (nI k)) (mRec_step hf _ _ _) (hStep_7 _ _ _ _ h7)
      unfold Q_Model_unlike at key
      rw [hz, sFO, mFO, if_pos (show (fun k => I 69 (40 * q + k)) k = hStep S (sp - sp / 10 * 10) 1 f 6 from c_2), if_pos (show (fun k => I 69 (40 * q + k)) k = hStep S (sp - sp / 10 * 10) 1 f 6 from c_2), nI_1]
      exact key
    ·
      refine X_iload d_Model_unlike_64 rfl ?_
      rw [hz, sFO, mFO, if_neg (show ¬ (fun k => I 69 (40 * q + k)) k = hStep S (sp - sp / 10 * 10) 1 f 6 from c_2), if_neg (show ¬ (fun k => I 69 (40 * q + k)) k = hStep S (sp - sp / 10 * 10) 1 f 6 from c_2)]
      exact X_iret rfl rfl (xle_rf _) d_Model_unlike_66
theorem c_Model_unlike (l : Launch) (G : xG) {d : Nat} (nn : Nat) (hd : 9 ≤ d) (I : xI) (i : Nat) (hi : i < 5) (f : Nat → Int32) (e : Int32) (ln q : Nat) (S : xSay) (hK : mK I ln S) (hq : q < 4) (n sp : Int32) (N : Nat) (hN : N ≤ 40) (hsz : I 68 q = nI N) (hm : ¬ I 61 i < 0 ∧ I 61 i ≤ 9) (hn : ¬ xabs n < 0) (hn2 : xabs n ≤ 100) (hs : ¬ sp / 10 < 0 ∧ sp / 10 ≤ 9) : XM l G d y_Model_unlike b_Model_unlike 6 (some .int) 0 0 xK0 [.ref (xg G 59), .int (nI q), .int (nI i), .int n, .int sp] nn (xm G xYf (xup I 59 (sc (I 59) f e))) (some (.int (sFO S (sp - sp / 10 * 10) (fun k => I 69 (40 * q + k)) N 0 (hSpin S n (sp / 10) (hStd (mRow I i)))).1)) nn (xm G xYf (xup I 59 (sc (I 59) ((sFO S (sp - sp / 10 * 10) (fun k => I 69 (40 * q + k)) N 0 (hSpin S n (sp / 10) (hStd (mRow I i)))).2) (mFO S (sp - sp / 10 * 10) (fun k => I 69 (40 * q + k)) N 0 (hSpin S n (sp / 10) (hStd (mRow I i))) (-1))))) := by
  refine XM.of (by decide) (Nat.le_of_ble_eq_true rfl) (L := [(0, .ref (xg G 59)), (1, .int (nI q)), (2, .int (nI i)), (3, .int n), (4, .int sp)]) rfl ?_
  refine X_aload_n d_Model_unlike_0 rfl rfl ?_
  refine X_iload_n d_Model_unlike_1 rfl rfl ?_
  refine X_iload_n d_Model_unlike_2 rfl rfl ?_
  refine X_iload d_Model_unlike_3 rfl ?_
  refine X_bipush (v := 10) d_Model_unlike_5 rfl ?_
  refine X_idiv d_Model_unlike_7 (by decide) ?_
  refine X_iconst (v := 0) d_Model_unlike_8 rfl ?_
  refine X_iload d_Model_unlike_9 rfl ?_
  refine X_bipush (v := 10) d_Model_unlike_11 rfl ?_
  refine X_irem d_Model_unlike_13 (by decide) ?_
  refine X_iconst (v := 0) d_Model_unlike_14 rfl ?_
  refine X_callVv (rest := []) (by have q := c_Model_tries l G nn (d := d - 1) (by omega) I i (by omega) f e ln S hK n (sp / 10) 0 (sp - sp / 10 * 10) 0 hs hm hn hn2 (by decide) (by decide) (by decide) (by decide); exact q) lk_Model_tries ml_Model_218 (xm_obj (show xYf 59 = some sModel from rfl)) rfl rfl (Nat.le_of_ble_eq_true rfl) (xRok (d' := d - 1) (by omega) (by decide)) ⟨Nat.le_refl _, Nat.le_refl _⟩ d_Model_unlike_15 rfl ?_
  refine X_iconst (v := 0) d_Model_unlike_18 rfl ?_
  refine X_istore d_Model_unlike_19 (by decide) [1, 2, 3, 4, 5, 0] (L' := [(0, .ref (xg G 59)), (1, .int (nI q)), (2, .int (nI i)), (3, .int n), (4, .int sp), (5, .int 0)]) rfl ?_
  have hx := xloop (Q := fun k => ∀ f e, mRec I i f → (f 7 = 0 ∨ f 7 = 1) → Q_Model_unlike l G d nn I q i S n sp N k f e) (T := N) (fun k hk ih f e => w_Model_unlike l G nn (by omega) I ln i q S hK hi hq n sp N hN hsz k hk ih f e) 0 (Nat.zero_le _) (hSpin S n (sp / 10) (hStd (mRow I i))) (-1) (mRec_spinN (mRec_std (mRec_row I i)) _ _ _ _) (h7_spin (Or.inl rfl))
  unfold Q_Model_unlike at hx
  exact hx
