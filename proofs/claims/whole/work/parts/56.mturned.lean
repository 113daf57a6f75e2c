def tnS (U : Nat → Int32) : Nat → Nat → Int32 → Int32 → Int32 × Int32
  | 0, _, m, f => (m, f)
  | r + 1, k, m, f => if U k = -1 then tnS U r (k + 1) (m + 1) (if m = 0 then mNum (nI k) else f) else tnS U r (k + 1) m f
def mBits (U : Nat → Int32) : Nat → Nat → Int32 → Int32
  | 0, _, b => b
  | r + 1, k, b => mBits U r (k + 1) (if U k = -1 then b ||| 1 <<< (nI k &&& 31) else b)
def ulF (S : xSay) (g : Nat → Int32) (N : Nat) (n sp : Int32) (F : Nat → Int32) : Nat → Int32 := (sFO S (sp - sp / 10 * 10) g N 0 (hSpin S n (sp / 10) (hStd F))).2
def ulE (S : xSay) (g : Nat → Int32) (N : Nat) (n sp : Int32) (F : Nat → Int32) : Int32 := mFO S (sp - sp / 10 * 10) g N 0 (hSpin S n (sp / 10) (hStd F)) (-1)
def Q_Model_turned (l : Launch) (G : xG) (d nn : Nat) (I : xI) (q i : Nat) (S : xSay) (sz : Nat → Nat) (sp what : Int32) (k : Nat) (many first : Int32) (f : Nat → Int32) (e : Int32) : Prop := XW l G (xR d 0 0) y_Model_turned b_Model_turned 10 (some .int) xK0 (xZ G nn (xm G xYf (xup I 59 (sc (I 59) (wnF (fun k _ => ulF S (fun k => I 69 (40 * q + k)) (sz q) (mNum (nI k)) sp (mRow I i)) (81 - k) k f) (wnE (fun k _ => ulE S (fun k => I 69 (40 * q + k)) (sz q) (mNum (nI k)) sp (mRow I i)) (81 - k) k e)))) (some (.int (rUndo what (tnS (fun k => tUnl S (fun k => I 69 (40 * q + k)) (sz q) (mNum (nI k)) sp (mRow I i)) (81 - k) k many first)))) 0 0) nn (xm G xYf (xup I 59 (sc (I 59) f e))) 0 0 41 [(0, .ref (xg G 59)), (1, .int (nI q)), (2, .int (nI i)), (3, .int sp), (4, .int what), (6, .int many), (7, .int first), (8, .int (nI k))] []
theorem w_Model_turned (l : Launch) (G : xG) {d : Nat} (nn : Nat) (hd : 10 ≤ d) (I : xI) (ln q i : Nat) (S : xSay) (hK : mK I ln S) (hq : q < 4) (hi : i < 5) (sp what : Int32) (hsp : xsp sp = true) (hR : ∀ i, i < 5 → (¬ I 61 i < 0 ∧ I 61 i ≤ 9) ∧ (I 62 (6 * i + 5) = 0 ∨ I 62 (6 * i + 5) = 1)) (sz : Nat → Nat) (hsz : msOK I sz) (k : Nat) (hk : k ≤ 81) (ih : k < 81 → ∀ many first f e, Q_Model_turned l G d nn I q i S sz sp what (k + 1) many first f e) (many first : Int32) (f : Nat → Int32) (e : Int32) : Q_Model_turned l G d nn I q i S sz sp what k many first f e := by
  unfold Q_Model_turned
  refine X_iload d_Model_turned_41 rfl ?_
  refine X_bipush (v := 80) d_Model_turned_43 rfl ?_
  refine X_icmp_gt (tgt := 114) d_Model_turned_45 (by decide) (fun c_1 => ?_) (fun c_1 => ?_)
  ·
    refine X_iload d_Model_turned_114 rfl ?_
    refine X_if_ne (tgt := 124) d_Model_turned_116 (by decide) (fun c_2 => ?_) (fun c_2 => ?_)
    ·
      refine X_iload d_Model_turned_124 rfl ?_
      have hz : 81 - k = 0 := by have := (nI_ltI (a := 80) (by decide) (by omega)).mp c_1; omega
      rw [hz]
      exact X_iret rfl (congrArg (fun q => some (Value.int q)) (by rw [rUndo, if_neg c_2]; rfl)) (xle_rf _) d_Model_turned_126
    ·
      refine X_iload d_Model_turned_119 rfl ?_
      refine X_goto (tgt := 126) d_Model_turned_121 (by decide) ?_
      have hz : 81 - k = 0 := by have := (nI_ltI (a := 80) (by decide) (by omega)).mp c_1; omega
      rw [hz]
      exact X_iret rfl (congrArg (fun q => some (Value.int q)) (by rw [rUndo, if_pos c_2]; rfl)) (xle_rf _) d_Model_turned_126
  ·
    have hlt : k < 81 := Nat.lt_of_not_le (fun z => c_1 (show nI 80 < nI k from nI_lt (by omega) (by omega)))
    have hz : 81 - k = (81 - (k + 1)) + 1 := by omega
    have hn := mNum_ok (show k ≤ 80 by omega)
    refine X_aload_n d_Model_turned_48 rfl rfl ?_
    refine X_iload_n d_Model_turned_49 rfl rfl ?_
    refine X_iload_n d_Model_turned_50 rfl rfl ?_
    refine X_iload d_Model_turned_51 rfl ?_
    refine X_callS (v := .int (mNum (nI k))) (rest := [.int (nI i), .int (nI q), .ref (xg G 59)]) (c_Model_byNumber l G nn _ (by omega) (nI k)) lk_Model_byNumber ml_Model_231 rfl (Nat.le_of_ble_eq_true rfl) (xRok (d' := d - 1) (by omega) (by decide)) ⟨Nat.le_refl _, Nat.le_refl _⟩ d_Model_turned_53 rfl ?_
    refine X_iload_n d_Model_turned_56 rfl rfl ?_
    refine X_callV (v := .int ((sFO S (sp - sp / 10 * 10) (fun k => I 69 (40 * q + k)) (sz q) 0 (hSpin S (mNum (nI k)) (sp / 10) (hStd (mRow I i)))).1)) (rest := []) (by have q0 := c_Model_unlike l G nn (d := d - 1) (by omega) I i (by omega) f e ln q S hK hq (mNum (nI k)) sp (sz q) (hsz q hq).2 (hsz q hq).1 (hR i (by omega)).1 hn.1 hn.2 (xsp_s hsp); exact q0) lk_Model_unlike ml_Model_240 (xm_obj (show xYf 59 = some sModel from rfl)) rfl rfl (Nat.le_of_ble_eq_true rfl) (xRok (d' := d - 1) (by omega) (by decide)) ⟨Nat.le_refl _, Nat.le_refl _⟩ d_Model_turned_57 rfl ?_
    refine X_iconst (v := -1) d_Model_turned_60 rfl ?_
    refine X_icmp_ne (tgt := 68) d_Model_turned_61 (by decide) (fun c_3 => ?_) (fun c_3 => ?_)
    ·
      refine X_iconst (v := 0) d_Model_turned_68 rfl ?_
      refine X_istore d_Model_turned_69 (by decide) [1, 2, 3, 4, 5, 6, 7, 8, 0] (L' := [(0, .ref (xg G 59)), (1, .int (nI q)), (2, .int (nI i)), (3, .int sp), (4, .int what), (6, .int many), (7, .int first), (8, .int (nI k)), (9, .int 0)]) rfl ?_
      refine X_iload d_Model_turned_71 rfl ?_
      refine X_if_eq (tgt := 89) d_Model_turned_73 (by decide) (fun _ => ?_) (fun c_4 => absurd c_4 (by decide))
      refine X_iload d_Model_turned_89 rfl ?_
      refine X_istore d_Model_turned_91 (by decide) [1, 2, 3, 4, 5, 6, 0, 7, 8] (L' := [(0, .ref (xg G 59)), (1, .int (nI q)), (2, .int (nI i)), (3, .int sp), (4, .int what), (6, .int many), (7, .int first), (8, .int (nI k)), (9, .int 0)]) rfl ?_
      refine X_iload d_Model_turned_93 rfl ?_
      refine X_iload d_Model_turned_95 rfl ?_
      refine X_if_eq (tgt := 104) d_Model_turned_97 (by decide) (fun _ => ?_) (fun c_5 => absurd c_5 (by decide))
      refine X_iconst (v := 0) d_Model_turned_104 rfl ?_
      refine X_iadd d_Model_turned_105 ?_
      refine X_istore d_Model_turned_106 (by decide) [1, 2, 3, 4, 5, 0, 6, 7, 8] (L' := [(0, .ref (xg G 59)), (1, .int (nI q)), (2, .int (nI i)), (3, .int sp), (4, .int what), (6, .int (many + 0)), (7, .int first), (8, .int (nI k)), (9, .int 0)]) rfl ?_
      refine X_iinc d_Model_turned_108 rfl (v := (nI k) + 1) rfl (by decide) [1, 2, 3, 4, 5, 6, 7, 0, 8] (L' := [(0, .ref (xg G 59)), (1, .int (nI q)), (2, .int (nI i)), (3, .int sp), (4, .int what), (6, .int (many + 0)), (7, .int first), (8, .int ((nI k) + 1)), (9, .int 0)]) rfl ?_
      refine X_goto (tgt := 41) d_Model_turned_111 (by decide) ?_
      have hU : ¬ (fun k => tUnl S (fun k => I 69 (40 * q + k)) (sz q) (mNum (nI k)) sp (mRow I i)) k = -1 := c_3
      rw [show many + 0 = many from Int32.add_zero many]
      have key := ih hlt many first ((sFO S (sp - sp / 10 * 10) (fun k => I 69 (40 * q + k)) (sz q) 0 (hSpin S (mNum (nI k)) (sp / 10) (hStd (mRow I i)))).2) (mFO S (sp - sp / 10 * 10) (fun k => I 69 (40 * q + k)) (sz q) 0 (hSpin S (mNum (nI k)) (sp / 10) (hStd (mRow I i))) (-1))
      unfold Q_Model_turned at key
      rw [hz, wnF, wnE, tnS, if_neg hU, nI_1]
      refine X_sub [0, 1, 2, 3, 4, 5, 6, 7] (L' := [(0, .ref (xg G 59)), (1, .int (nI q)), (2, .int (nI i)), (3, .int sp), (4, .int what), (6, .int many), (7, .int first), (8, .int (nI (k + 1)))]) rfl ?_
      exact key
    ·
      refine X_iconst (v := 1) d_Model_turned_64 rfl ?_
      refine X_goto (tgt := 69) d_Model_turned_65 (by decide) ?_
      refine X_istore d_Model_turned_69 (by decide) [1, 2, 3, 4, 5, 6, 7, 8, 0] (L' := [(0, .ref (xg G 59)), (1, .int (nI q)), (2, .int (nI i)), (3, .int sp), (4, .int what), (6, .int many), (7, .int first), (8, .int (nI k)), (9, .int 1)]) rfl ?_
      refine X_iload d_Model_turned_71 rfl ?_
      refine X_if_eq (tgt := 89) d_Model_turned_73 (by decide) (fun c_6 => absurd c_6 (by decide)) (fun _ => ?_)
      refine X_iload d_Model_turned_76 rfl ?_
      refine X_if_ne (tgt := 89) d_Model_turned_78 (by decide) (fun c_7 => ?_) (fun c_7 => ?_)
      ·
        refine X_iload d_Model_turned_89 rfl ?_
        refine X_istore d_Model_turned_91 (by decide) [1, 2, 3, 4, 5, 6, 0, 7, 8] (L' := [(0, .ref (xg G 59)), (1, .int (nI q)), (2, .int (nI i)), (3, .int sp), (4, .int what), (6, .int many), (7, .int first), (8, .int (nI k)), (9, .int 1)]) rfl ?_
        refine X_iload d_Model_turned_93 rfl ?_
        refine X_iload d_Model_turned_95 rfl ?_
        refine X_if_eq (tgt := 104) d_Model_turned_97 (by decide) (fun c_8 => absurd c_8 (by decide)) (fun _ => ?_)
        refine X_iconst (v := 1) d_Model_turned_100 rfl ?_
        refine X_goto (tgt := 105) d_Model_turned_101 (by decide) ?_
        refine X_iadd d_Model_turned_105 ?_
        refine X_istore d_Model_turned_106 (by decide) [1, 2, 3, 4, 5, 0, 6, 7, 8] (L' := [(0, .ref (xg G 59)), (1, .int (nI q)), (2, .int (nI i)), (3, .int sp), (4, .int what), (6, .int (many + 1)), (7, .int first), (8, .int (nI k)), (9, .int 1)]) rfl ?_
        refine X_iinc d_Model_turned_108 rfl (v := (nI k) + 1) rfl (by decide) [1, 2, 3, 4, 5, 6, 7, 0, 8] (L' := [(0, .ref (xg G 59)), (1, .int (nI q)), (2, .int (nI i)), (3, .int sp), (4, .int what), (6, .int (many + 1)), (7, .int first), (8, .int ((nI k) + 1)), (9, .int 1)]) rfl ?_
        refine X_goto (tgt := 41) d_Model_turned_111 (by decide) ?_
        have hU : (fun k => tUnl S (fun k => I 69 (40 * q + k)) (sz q) (mNum (nI k)) sp (mRow I i)) k = -1 := c_3
        have key := ih hlt (many + 1) first ((sFO S (sp - sp / 10 * 10) (fun k => I 69 (40 * q + k)) (sz q) 0 (hSpin S (mNum (nI k)) (sp / 10) (hStd (mRow I i)))).2) (mFO S (sp - sp / 10 * 10) (fun k => I 69 (40 * q + k)) (sz q) 0 (hSpin S (mNum (nI k)) (sp / 10) (hStd (mRow I i))) (-1))
        unfold Q_Model_turned at key
        rw [hz, wnF, wnE, tnS, if_pos hU, if_neg c_7, nI_1]
        refine X_sub [0, 1, 2, 3, 4, 5, 6, 7] (L' := [(0, .ref (xg G 59)), (1, .int (nI q)), (2, .int (nI i)), (3, .int sp), (4, .int what), (6, .int (many + 1)), (7, .int first), (8, .int (nI (k + 1)))]) rfl ?_
        exact key
      ·
        refine X_iload d_Model_turned_81 rfl ?_
        refine X_callS (v := .int (mNum (nI k))) (rest := []) (c_Model_byNumber l G nn _ (by omega) (nI k)) lk_Model_byNumber ml_Model_231 rfl (Nat.le_of_ble_eq_true rfl) (xRok (d' := d - 1) (by omega) (by decide)) ⟨Nat.le_refl _, Nat.le_refl _⟩ d_Model_turned_83 rfl ?_
        refine X_goto (tgt := 91) d_Model_turned_86 (by decide) ?_
        refine X_istore d_Model_turned_91 (by decide) [1, 2, 3, 4, 5, 6, 0, 7, 8] (L' := [(0, .ref (xg G 59)), (1, .int (nI q)), (2, .int (nI i)), (3, .int sp), (4, .int what), (6, .int many), (7, .int (mNum (nI k))), (8, .int (nI k)), (9, .int 1)]) rfl ?_
        refine X_iload d_Model_turned_93 rfl ?_
        refine X_iload d_Model_turned_95 rfl ?_
        refine X_if_eq (tgt := 104) d_Model_turned_97 (by decide) (fun c_9 => absurd c_9 (by decide)) (fun _ => ?_)
        refine X_iconst (v := 1) d_Model_turned_100 rfl ?_
        refine X_goto (tgt := 105) d_Model_turned_101 (by decide) ?_
        refine X_iadd d_Model_turned_105 ?_
        refine X_istore d_Model_turned_106 (by decide) [1, 2, 3, 4, 5, 0, 6, 7, 8] (L' := [(0, .ref (xg G 59)), (1, .int (nI q)), (2, .int (nI i)), (3, .int sp), (4, .int what), (6, .int (many + 1)), (7, .int (mNum (nI k))), (8, .int (nI k)), (9, .int 1)]) rfl ?_
        refine X_iinc d_Model_turned_108 rfl (v := (nI k) + 1) rfl (by decide) [1, 2, 3, 4, 5, 6, 7, 0, 8] (L' := [(0, .ref (xg G 59)), (1, .int (nI q)), (2, .int (nI i)), (3, .int sp), (4, .int what), (6, .int (many + 1)), (7, .int (mNum (nI k))), (8, .int ((nI k) + 1)), (9, .int 1)]) rfl ?_
        refine X_goto (tgt := 41) d_Model_turned_111 (by decide) ?_
        have hU : (fun k => tUnl S (fun k => I 69 (40 * q + k)) (sz q) (mNum (nI k)) sp (mRow I i)) k = -1 := c_3
        have key := ih hlt (many + 1) (mNum (nI k)) ((sFO S (sp - sp / 10 * 10) (fun k => I 69 (40 * q + k)) (sz q) 0 (hSpin S (mNum (nI k)) (sp / 10) (hStd (mRow I i)))).2) (mFO S (sp - sp / 10 * 10) (fun k => I 69 (40 * q + k)) (sz q) 0 (hSpin S (mNum (nI k)) (sp / 10) (hStd (mRow I i))) (-1))
        unfold Q_Model_turned at key
        rw [hz, wnF, wnE, tnS, if_pos hU, if_pos c_7, nI_1]
        refine X_sub [0, 1, 2, 3, 4, 5, 6, 7] (L' := [(0, .ref (xg G 59)), (1, .int (nI q)), (2, .int (nI i)), (3, .int sp), (4, .int what), (6, .int (many + 1)), (7, .int (mNum (nI k))), (8, .int (nI (k + 1)))]) rfl ?_
        exact key
def aTurnedM (hc : Nat) (L : xSay) (R : Nat → Nat → Int32) (srt : Nat → Int32) (sz : Nat → Nat) (cl : Nat → Nat → Int32) (s h sp what : Int32) : Int32 := if mTold hc srt s h 0 sp = 0 then (if xin what 0 1 = true then rUndo what (tnS (fun k => tUnl L (cl s.toNatClampNeg) (sz s.toNatClampNeg) (mNum (nI k)) sp (R h.toNatClampNeg)) (81 - 0) 0 0 (-100)) else -7) else mTold hc srt s h 0 sp
theorem c_Model_turned (l : Launch) (G : xG) {d : Nat} (nn : Nat) (hd : 10 ≤ d) (I : xI) (hc tc ln : Nat) (SS : Nat → xSay) (hK0 : mOK I hc tc ln SS) (sz : Nat → Nat) (hsz : msOK I sz) (s h sp what : Int32) : XM l G d y_Model_turned b_Model_turned 10 (some .int) 0 0 xK0 [.ref (xg G 59), .int s, .int h, .int sp, .int what] nn (xm G xYf I) (some (.int (aTurnedM hc (SS ln) (mRow I) (I 67) sz (fun q k => I 69 (40 * q + k)) s h sp what))) nn (xm G xYf (if mTold hc (I 67) s h 0 sp = 0 ∧ xin what 0 1 = true then xup I 59 (sc (I 59) (wnF (fun k _ => ulF (SS ln) (fun k => I 69 (40 * s.toNatClampNeg + k)) (sz s.toNatClampNeg) (mNum (nI k)) sp (mRow I h.toNatClampNeg)) (81 - 0) 0 (mCur I)) (wnE (fun k _ => ulE (SS ln) (fun k => I 69 (40 * s.toNatClampNeg + k)) (sz s.toNatClampNeg) (mNum (nI k)) sp (mRow I h.toNatClampNeg)) (81 - 0) 0 (I 59 33))) else I)) := by
  obtain ⟨⟨h0, h5⟩, ⟨h8, h6⟩, ⟨h9, hl⟩, hTs, hR⟩ := id hK0
  have hK : mK I ln (SS ln) := ⟨hTs ln hl, h9, by omega⟩
  generalize hSS : SS ln = S at hK ⊢
  refine XM.of (by decide) (Nat.le_of_ble_eq_true rfl) (L := [(0, .ref (xg G 59)), (1, .int s), (2, .int h), (3, .int sp), (4, .int what)]) rfl ?_
  refine X_aload_n d_Model_turned_0 rfl rfl ?_
  refine X_iload_n d_Model_turned_1 rfl rfl ?_
  refine X_iload_n d_Model_turned_2 rfl rfl ?_
  refine X_iconst (v := 0) d_Model_turned_3 rfl ?_
  refine X_iload_n d_Model_turned_4 rfl rfl ?_
  refine X_callV (v := .int (mTold hc (I 67) s h 0 sp)) (rest := []) (c_Model_toldWrong l G nn (by omega) I hc tc ln SS hK0 s h 0 sp) lk_Model_toldWrong ml_Model_237 (xm_obj (show xYf 59 = some sModel from rfl)) rfl rfl (Nat.le_of_ble_eq_true rfl) (xRok (d' := d - 1) (by omega) (by decide)) ⟨Nat.le_refl _, Nat.le_refl _⟩ d_Model_turned_5 rfl ?_
  refine X_istore d_Model_turned_8 (by decide) [1, 2, 3, 4, 5, 0] (L' := [(0, .ref (xg G 59)), (1, .int s), (2, .int h), (3, .int sp), (4, .int what), (5, .int (mTold hc (I 67) s h 0 sp))]) rfl ?_
  refine X_iload d_Model_turned_10 rfl ?_
  refine X_if_eq (tgt := 18) d_Model_turned_12 (by decide) (fun c_1 => ?_) (fun c_1 => ?_)
  ·
    obtain ⟨q, i, hq, hi, rfl, rfl, ht, hn, hsp⟩ := mTold_ok h5 c_1
    refine X_iload d_Model_turned_18 rfl ?_
    refine X_iconst (v := 0) d_Model_turned_20 rfl ?_
    refine X_iconst (v := 1) d_Model_turned_21 rfl ?_
    refine X_callS (v := .int (xb (xin what 0 1))) (rest := []) (c_Model_in l G nn _ (by omega) what 0 1) lk_Model_in ml_Model_66 rfl (Nat.le_of_ble_eq_true rfl) (xRok (d' := d - 1) (by omega) (by decide)) ⟨Nat.le_refl _, Nat.le_refl _⟩ d_Model_turned_22 rfl ?_
    refine X_ifb_ne (tgt := 31) d_Model_turned_25 (by decide) (fun c_2 => ?_) (fun c_2 => ?_)
    ·
      refine X_iconst (v := 0) d_Model_turned_31 rfl ?_
      refine X_istore d_Model_turned_32 (by decide) [1, 2, 3, 4, 5, 6, 0] (L' := [(0, .ref (xg G 59)), (1, .int (nI q)), (2, .int (nI i)), (3, .int sp), (4, .int what), (5, .int (mTold hc (I 67) (nI q) (nI i) 0 sp)), (6, .int 0)]) rfl ?_
      refine X_bipush (v := -100) d_Model_turned_34 rfl ?_
      refine X_istore d_Model_turned_36 (by decide) [1, 2, 3, 4, 5, 6, 7, 0] (L' := [(0, .ref (xg G 59)), (1, .int (nI q)), (2, .int (nI i)), (3, .int sp), (4, .int what), (5, .int (mTold hc (I 67) (nI q) (nI i) 0 sp)), (6, .int 0), (7, .int (-100))]) rfl ?_
      refine X_iconst (v := 0) d_Model_turned_38 rfl ?_
      refine X_istore d_Model_turned_39 (by decide) [1, 2, 3, 4, 5, 6, 7, 8, 0] (L' := [(0, .ref (xg G 59)), (1, .int (nI q)), (2, .int (nI i)), (3, .int sp), (4, .int what), (5, .int (mTold hc (I 67) (nI q) (nI i) 0 sp)), (6, .int 0), (7, .int (-100)), (8, .int 0)]) rfl ?_
      have hx := xloop (Q := fun k => ∀ many first f e, Q_Model_turned l G d nn I q i S sz sp what k many first f e) (T := 81) (fun k hk ih many first f e => w_Model_turned l G nn hd I ln q i S hK hq (by omega) sp what hsp hR sz hsz k hk ih many first f e) 0 (by decide) 0 (-100) (mCur I) (I 59 33)
      unfold Q_Model_turned at hx
      rw [sc_self] at hx
      rw [aTurnedM, if_pos c_1, if_pos ⟨c_1, c_2⟩, if_pos c_2, nI_cl (show i < 2 ^ 31 by omega), nI_cl (show q < 2 ^ 31 by omega)]
      refine X_sub [0, 1, 2, 3, 4, 6, 7, 8] (L' := [(0, .ref (xg G 59)), (1, .int (nI q)), (2, .int (nI i)), (3, .int sp), (4, .int what), (6, .int 0), (7, .int (-100)), (8, .int 0)]) rfl ?_
      exact hx
    ·
      refine X_bipush (v := -7) d_Model_turned_28 rfl ?_
      exact X_iret rfl (congrArg (fun q => some (Value.int q)) (by subst hSS; first | (simp [aTurnedM, c_1, nI_cl (show q < 2 ^ 31 by omega), nI_cl (show i < 2 ^ 31 by omega), c_2, xl_1_0, xl_1_1, xl_2_0, xl_2_1, xl_2_2, xl_3_0, xl_3_1, xl_3_2, xl_3_3]; done) | (exfalso; simp_all; done) | (clear hTs hR hK0 hK; simp_all [aTurnedM, nI_cl (show q < 2 ^ 31 by omega), nI_cl (show i < 2 ^ 31 by omega)]; done))) (xle_of (congrArg (xm G xYf) (by first | (subst hSS; simp [c_1, nI_cl (show q < 2 ^ 31 by omega), nI_cl (show i < 2 ^ 31 by omega), c_2, xl_3_0, xl_3_1, xl_3_2, xl_3_3, xl_2_0, xl_2_1, xl_2_2, xl_1_0, xl_1_1]; done) | (exfalso; simp_all; done)))) d_Model_turned_30
  ·
    refine X_iload d_Model_turned_15 rfl ?_
    exact X_iret rfl (congrArg (fun q => some (Value.int q)) (by subst hSS; first | (simp [aTurnedM, c_1, xl_1_0, xl_1_1, xl_2_0, xl_2_1, xl_2_2, xl_3_0, xl_3_1, xl_3_2, xl_3_3]; done) | (exfalso; simp_all; done) | (clear hTs hR hK0 hK; simp_all [aTurnedM]; done))) (xle_of (congrArg (xm G xYf) (by first | (subst hSS; simp [c_1, xl_3_0, xl_3_1, xl_3_2, xl_3_3, xl_2_0, xl_2_1, xl_2_2, xl_1_0, xl_1_1]; done) | (exfalso; simp_all; done)))) d_Model_turned_17
def Q_Model_whose (l : Launch) (G : xG) (d nn : Nat) (I : xI) (hc q : Nat) (S : xSay) (sz : Nat → Nat) (n sp : Int32) (k : Nat) (b : Int32) (f : Nat → Int32) (e : Int32) : Prop := XW l G (xR d 0 0) y_Model_whose b_Model_whose 7 (some .int) xK0 (xZ G nn (xm G xYf (xup I 59 (sc (I 59) (wnF (fun h _ => ulF S (fun k => I 69 (40 * q + k)) (sz q) n sp (mRow I h)) (hc - k) k f) (wnE (fun h _ => ulE S (fun k => I 69 (40 * q + k)) (sz q) n sp (mRow I h)) (hc - k) k e)))) (some (.int (mBits (fun h => tUnl S (fun k => I 69 (40 * q + k)) (sz q) n sp (mRow I h)) (hc - k) k b))) 0 0) nn (xm G xYf (xup I 59 (sc (I 59) f e))) 0 0 38 [(0, .ref (xg G 59)), (1, .int (nI q)), (2, .int n), (3, .int sp), (5, .int b), (6, .int (nI k))] []
theorem w_Model_whose (l : Launch) (G : xG) {d : Nat} (nn : Nat) (hd : 10 ≤ d) (I : xI) (hc tc ln : Nat) (SS : Nat → xSay) (hK0 : mOK I hc tc ln SS) (sz : Nat → Nat) (hsz : msOK I sz) (q : Nat) (hq : q < 4) (n sp : Int32) (hn : xin n (-40) 40 = true) (hsp : xsp sp = true) (k : Nat) (hk : k ≤ hc) (ih : k < hc → ∀ b f e, Q_Model_whose l G d nn I hc q (SS ln) sz n sp (k + 1) b f e) (b : Int32) (f : Nat → Int32) (e : Int32) : Q_Model_whose l G d nn I hc q (SS ln) sz n sp k b f e := by
  unfold Q_Model_whose
  obtain ⟨⟨h0, h5⟩, ⟨h8, h6⟩, ⟨h9, hl⟩, hTs, hR⟩ := id hK0
  have hK : mK I ln (SS ln) := ⟨hTs ln hl, h9, by omega⟩
  generalize hSS : SS ln = S at hK ⊢
  refine X_iload d_Model_whose_38 rfl ?_
  refine X_aload_n d_Model_whose_40 rfl rfl ?_
  refine X_getI (v := nI hc) fg_Model_63 (show xYf 59 = some sModel from rfl) rfl ((congrFun (xup_s _ _ _) _).trans ((sc_o _ _ _ (by decide)).trans (h0))) d_Model_whose_41 ?_
  refine X_icmp_ge (tgt := 79) d_Model_whose_44 (by decide) (fun c_1 => ?_) (fun c_1 => ?_)
  ·
    refine X_iload d_Model_whose_79 rfl ?_
    have hz : hc - k = 0 := by have := nI_done hk (by omega) c_1; omega
    rw [hz]
    exact X_iret rfl rfl (xle_rf _) d_Model_whose_81
  ·
    have hlt : k < hc := nI_more hk (by omega) c_1
    have hz : hc - k = (hc - (k + 1)) + 1 := by omega
    have hltk : k < 5 := by omega
    refine X_iload d_Model_whose_47 rfl ?_
    refine X_aload_n d_Model_whose_49 rfl rfl ?_
    refine X_iload_n d_Model_whose_50 rfl rfl ?_
    refine X_iload d_Model_whose_51 rfl ?_
    refine X_iload_n d_Model_whose_53 rfl rfl ?_
    refine X_iload_n d_Model_whose_54 rfl rfl ?_
    refine X_callV (v := .int ((sFO S (sp - sp / 10 * 10) (fun k => I 69 (40 * q + k)) (sz q) 0 (hSpin S n (sp / 10) (hStd (mRow I k)))).1)) (rest := [.int b]) (by have q0 := c_Model_unlike l G nn (d := d - 1) (by omega) I k (by omega) f e ln q S hK hq n sp (sz q) (hsz q hq).2 (hsz q hq).1 (hR k (by omega)).1 (xin_abs hn) (xin_abs2 hn) (xsp_s hsp); exact q0) lk_Model_unlike ml_Model_240 (xm_obj (show xYf 59 = some sModel from rfl)) rfl rfl (Nat.le_of_ble_eq_true rfl) (xRok (d' := d - 1) (by omega) (by decide)) ⟨Nat.le_refl _, Nat.le_refl _⟩ d_Model_whose_55 rfl ?_
    refine X_iconst (v := -1) d_Model_whose_58 rfl ?_
    refine X_icmp_ne (tgt := 69) d_Model_whose_59 (by decide) (fun c_2 => ?_) (fun c_2 => ?_)
    ·
      refine X_iconst (v := 0) d_Model_whose_69 rfl ?_
      refine X_ior d_Model_whose_70 ?_
      refine X_istore d_Model_whose_71 (by decide) [1, 2, 3, 4, 0, 5] (L' := [(0, .ref (xg G 59)), (1, .int (nI q)), (2, .int n), (3, .int sp), (5, .int (b ||| 0)), (6, .int (nI k))]) rfl ?_
      refine X_iinc d_Model_whose_73 rfl (v := (nI k) + 1) rfl (by decide) [1, 2, 3, 4, 5, 0] (L' := [(0, .ref (xg G 59)), (1, .int (nI q)), (2, .int n), (3, .int sp), (5, .int (b ||| 0)), (6, .int ((nI k) + 1))]) rfl ?_
      refine X_goto (tgt := 38) d_Model_whose_76 (by decide) ?_
      have hU : ¬ (fun h => tUnl S (fun k => I 69 (40 * q + k)) (sz q) n sp (mRow I h)) k = -1 := c_2
      rw [show b ||| 0 = b from Int32.or_zero]
      have key := ih hlt b ((sFO S (sp - sp / 10 * 10) (fun k => I 69 (40 * q + k)) (sz q) 0 (hSpin S n (sp / 10) (hStd (mRow I k)))).2) (mFO S (sp - sp / 10 * 10) (fun k => I 69 (40 * q + k)) (sz q) 0 (hSpin S n (sp / 10) (hStd (mRow I k))) (-1))
      unfold Q_Model_whose at key
      rw [hSS] at key
      rw [hz, wnF, wnE, mBits, if_neg hU, nI_1]
      exact key
    ·
      refine X_iconst (v := 1) d_Model_whose_62 rfl ?_
      refine X_iload d_Model_whose_63 rfl ?_
      refine X_ishl d_Model_whose_65 ?_
      refine X_goto (tgt := 70) d_Model_whose_66 (by decide) ?_
      refine X_ior d_Model_whose_70 ?_
      refine X_istore d_Model_whose_71 (by decide) [1, 2, 3, 4, 0, 5] (L' := [(0, .ref (xg G 59)), (1, .int (nI q)), (2, .int n), (3, .int sp), (5, .int (b ||| (1 <<< ((nI k) &&& 31)))), (6, .int (nI k))]) rfl ?_
      refine X_iinc d_Model_whose_73 rfl (v := (nI k) + 1) rfl (by decide) [1, 2, 3, 4, 5, 0] (L' := [(0, .ref (xg G 59)), (1, .int (nI q)), (2, .int n), (3, .int sp), (5, .int (b ||| (1 <<< ((nI k) &&& 31)))), (6, .int ((nI k) + 1))]) rfl ?_
      refine X_goto (tgt := 38) d_Model_whose_76 (by decide) ?_
      have hU : (fun h => tUnl S (fun k => I 69 (40 * q + k)) (sz q) n sp (mRow I h)) k = -1 := c_2
      have key := ih hlt (b ||| (1 <<< ((nI k) &&& 31))) ((sFO S (sp - sp / 10 * 10) (fun k => I 69 (40 * q + k)) (sz q) 0 (hSpin S n (sp / 10) (hStd (mRow I k)))).2) (mFO S (sp - sp / 10 * 10) (fun k => I 69 (40 * q + k)) (sz q) 0 (hSpin S n (sp / 10) (hStd (mRow I k))) (-1))
      unfold Q_Model_whose at key
      rw [hSS] at key
      rw [hz, wnF, wnE, mBits, if_pos hU, nI_1]
      exact key
def aWhoseM (hc : Nat) (L : xSay) (R : Nat → Nat → Int32) (srt : Nat → Int32) (sz : Nat → Nat) (cl : Nat → Nat → Int32) (s n sp : Int32) : Int32 := if rSheet srt s = 0 then (if xin n (-40) 40 = true ∧ xsp sp = true then mBits (fun h => tUnl L (cl s.toNatClampNeg) (sz s.toNatClampNeg) n sp (R h)) hc 0 0 else -7) else rSheet srt s
theorem c_Model_whose (l : Launch) (G : xG) {d : Nat} (nn : Nat) (hd : 10 ≤ d) (I : xI) (hc tc ln : Nat) (SS : Nat → xSay) (hK0 : mOK I hc tc ln SS) (sz : Nat → Nat) (hsz : msOK I sz) (s n sp : Int32) : XM l G d y_Model_whose b_Model_whose 7 (some .int) 0 0 xK0 [.ref (xg G 59), .int s, .int n, .int sp] nn (xm G xYf I) (some (.int (aWhoseM hc (SS ln) (mRow I) (I 67) sz (fun q k => I 69 (40 * q + k)) s n sp))) nn (xm G xYf (if rSheet (I 67) s = 0 ∧ xin n (-40) 40 = true ∧ xsp sp = true then xup I 59 (sc (I 59) (wnF (fun h _ => ulF (SS ln) (fun k => I 69 (40 * s.toNatClampNeg + k)) (sz s.toNatClampNeg) n sp (mRow I h)) hc 0 (mCur I)) (wnE (fun h _ => ulE (SS ln) (fun k => I 69 (40 * s.toNatClampNeg + k)) (sz s.toNatClampNeg) n sp (mRow I h)) hc 0 (I 59 33))) else I)) := by
  obtain ⟨⟨h0, h5⟩, ⟨h8, h6⟩, ⟨h9, hl⟩, hTs, hR⟩ := id hK0
  have hK : mK I ln (SS ln) := ⟨hTs ln hl, h9, by omega⟩
  generalize hSS : SS ln = S at hK ⊢
  refine XM.of (by decide) (Nat.le_of_ble_eq_true rfl) (L := [(0, .ref (xg G 59)), (1, .int s), (2, .int n), (3, .int sp)]) rfl ?_
  refine X_aload_n d_Model_whose_0 rfl rfl ?_
  refine X_iload_n d_Model_whose_1 rfl rfl ?_
  refine X_callV (v := .int (rSheet (I 67) s)) (rest := []) (c_Model_sheetWrong l G nn (by omega) I hc tc ln SS hK0 s) lk_Model_sheetWrong ml_Model_234 (xm_obj (show xYf 59 = some sModel from rfl)) rfl rfl (Nat.le_of_ble_eq_true rfl) (xRok (d' := d - 1) (by omega) (by decide)) ⟨Nat.le_refl _, Nat.le_refl _⟩ d_Model_whose_2 rfl ?_
  refine X_istore d_Model_whose_5 (by decide) [1, 2, 3, 4, 0] (L' := [(0, .ref (xg G 59)), (1, .int s), (2, .int n), (3, .int sp), (4, .int (rSheet (I 67) s))]) rfl ?_
  refine X_iload d_Model_whose_7 rfl ?_
  refine X_if_eq (tgt := 15) d_Model_whose_9 (by decide) (fun c_1 => ?_) (fun c_1 => ?_)
  ·
    obtain ⟨q, hq, rfl, hsq⟩ := rSheet_ok c_1
    refine X_iload_n d_Model_whose_15 rfl rfl ?_
    refine X_callS (v := .int (xb (xin n (-40) 40))) (rest := []) (c_Model_isTurned l G nn _ (by omega) n) lk_Model_isTurned ml_Model_193 rfl (Nat.le_of_ble_eq_true rfl) (xRok (d' := d - 1) (by omega) (by decide)) ⟨Nat.le_refl _, Nat.le_refl _⟩ d_Model_whose_16 rfl ?_
    refine X_ifb_eq (tgt := 29) d_Model_whose_19 (by decide) (fun c_2 => ?_) (fun c_2 => ?_)
    ·
      refine X_bipush (v := -7) d_Model_whose_29 rfl ?_
      exact X_iret rfl (congrArg (fun q => some (Value.int q)) (by subst hSS; first | (simp [aWhoseM, c_1, nI_cl (show q < 2 ^ 31 by omega), c_2, xl_1_0, xl_1_1, xl_2_0, xl_2_1, xl_2_2, xl_3_0, xl_3_1, xl_3_2, xl_3_3]; done) | (exfalso; simp_all; done) | (clear hTs hR hK0 hK; simp_all [aWhoseM, nI_cl (show q < 2 ^ 31 by omega)]; done))) (xle_of (congrArg (xm G xYf) (by first | (subst hSS; simp [c_1, nI_cl (show q < 2 ^ 31 by omega), c_2, xl_3_0, xl_3_1, xl_3_2, xl_3_3, xl_2_0, xl_2_1, xl_2_2, xl_1_0, xl_1_1]; done) | (exfalso; simp_all; done)))) d_Model_whose_31
    ·
      refine X_iload_n d_Model_whose_22 rfl rfl ?_
      refine X_callS (v := .int (xb (xsp sp))) (rest := []) (k_Model_areDigits l G nn _ (by omega) sp) lk_Model_areDigits ml_Model_215 rfl (Nat.le_of_ble_eq_true rfl) (xRok (d' := d - 1) (by omega) (by decide)) ⟨Nat.le_refl _, Nat.le_refl _⟩ d_Model_whose_23 rfl ?_
      refine X_ifb_ne (tgt := 32) d_Model_whose_26 (by decide) (fun c_3 => ?_) (fun c_3 => ?_)
      ·
        refine X_iconst (v := 0) d_Model_whose_32 rfl ?_
        refine X_istore d_Model_whose_33 (by decide) [1, 2, 3, 4, 5, 0] (L' := [(0, .ref (xg G 59)), (1, .int (nI q)), (2, .int n), (3, .int sp), (4, .int (rSheet (I 67) (nI q))), (5, .int 0)]) rfl ?_
        refine X_iconst (v := 0) d_Model_whose_35 rfl ?_
        refine X_istore d_Model_whose_36 (by decide) [1, 2, 3, 4, 5, 6, 0] (L' := [(0, .ref (xg G 59)), (1, .int (nI q)), (2, .int n), (3, .int sp), (4, .int (rSheet (I 67) (nI q))), (5, .int 0), (6, .int 0)]) rfl ?_
        have hx := xloop (Q := fun k => ∀ b f e, Q_Model_whose l G d nn I hc q (SS ln) sz n sp k b f e) (T := hc) (fun k hk ih b f e => w_Model_whose l G nn hd I hc tc ln SS hK0 sz hsz q hq n sp c_2 c_3 k hk ih b f e) 0 (Nat.zero_le _) 0 (mCur I) (I 59 33)
        unfold Q_Model_whose at hx
        rw [sc_self, hSS, Nat.sub_zero] at hx
        rw [aWhoseM, if_pos c_1, if_pos ⟨c_1, c_2, c_3⟩, if_pos ⟨c_2, c_3⟩, nI_cl (show q < 2 ^ 31 by omega)]
        refine X_sub [0, 1, 2, 3, 5, 6] (L' := [(0, .ref (xg G 59)), (1, .int (nI q)), (2, .int n), (3, .int sp), (5, .int 0), (6, .int 0)]) rfl ?_
        exact hx
      ·
        refine X_bipush (v := -7) d_Model_whose_29 rfl ?_
        exact X_iret rfl (congrArg (fun q => some (Value.int q)) (by subst hSS; first | (simp [aWhoseM, c_1, nI_cl (show q < 2 ^ 31 by omega), c_2, c_3, xl_1_0, xl_1_1, xl_2_0, xl_2_1, xl_2_2, xl_3_0, xl_3_1, xl_3_2, xl_3_3]; done) | (exfalso; simp_all; done) | (clear hTs hR hK0 hK; simp_all [aWhoseM, nI_cl (show q < 2 ^ 31 by omega)]; done))) (xle_of (congrArg (xm G xYf) (by first | (subst hSS; simp [c_1, nI_cl (show q < 2 ^ 31 by omega), c_2, c_3, xl_3_0, xl_3_1, xl_3_2, xl_3_3, xl_2_0, xl_2_1, xl_2_2, xl_1_0, xl_1_1]; done) | (exfalso; simp_all; done)))) d_Model_whose_31
  ·
    refine X_iload d_Model_whose_12 rfl ?_
    exact X_iret rfl (congrArg (fun q => some (Value.int q)) (by subst hSS; first | (simp [aWhoseM, c_1, xl_1_0, xl_1_1, xl_2_0, xl_2_1, xl_2_2, xl_3_0, xl_3_1, xl_3_2, xl_3_3]; done) | (exfalso; simp_all; done) | (clear hTs hR hK0 hK; simp_all [aWhoseM]; done))) (xle_of (congrArg (xm G xYf) (by first | (subst hSS; simp [c_1, xl_3_0, xl_3_1, xl_3_2, xl_3_3, xl_2_0, xl_2_1, xl_2_2, xl_1_0, xl_1_1]; done) | (exfalso; simp_all; done)))) d_Model_whose_14
