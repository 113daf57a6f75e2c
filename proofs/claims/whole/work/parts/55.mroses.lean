def pcT (S : xSay) (n sp far : Int32) (F : Nat → Int32) (k : Nat) : Nat → Int32 := hGo S (nI k) 1 ((far + nI k - 1) / nI k).toNatClampNeg (tTry S n sp 0 F)
def pcX (S : xSay) (n sp far : Int32) (F : Nat → Int32) (k : Nat) : Int32 := mEs S (nI k) 1 (tTry S n sp 0 F) (-1) ((far + nI k - 1) / nI k).toNatClampNeg
def paceC (T : Nat → Nat → Int32) : Nat → Int32 → Int32 → Bool := fun k b l => decide (T k 7 = 0) && (decide (b = -1) || decide (xabs (T k 6) ≤ l))
theorem nI_nz {k : Nat} (h0 : 0 < k) (hk : k < 2 ^ 31) : ¬ nI k = 0 := fun z => absurd ((nI_eq (a := k) (b := 0) hk (by decide)).mp z) (by omega)
theorem pk_sec {far : Int32} (h : xin far 1 60 = true) {k : Nat} (h1 : 1 ≤ k) (h2 : k ≤ 9) : ¬ (far + nI k - 1) / nI k < 0 ∧ (far + nI k - 1) / nI k ≤ 100 := by
  rw [xin_iff] at h
  obtain ⟨c, hc, rfl⟩ := nI_of (x := far) (Int32.not_lt.mpr (by have := h.1; grind))
  have hc2 : c ≤ 60 := (nI_leI hc (by decide)).mp h.2
  rw [nI_add, show nI (c + k) = nI (c + k - 1 + 1) by rw [show c + k - 1 + 1 = c + k by omega], nI_pred, q_div (by omega) k (by omega) (by omega)]
  have hq : (c + k - 1) / k ≤ c + k - 1 := Nat.div_le_self _ _
  exact ⟨nI_pos (by omega), (nI_leI (b := 100) (by omega) (by decide)).mpr (by omega)⟩
def Q_Model_pace (l : Launch) (G : xG) (d nn : Nat) (I : xI) (i : Nat) (S : xSay) (n sp far what : Int32) (k : Nat) (best least : Int32) (f : Nat → Int32) (e : Int32) : Prop := XW l G (xR d 0 0) y_Model_pace b_Model_pace 10 (some .int) xK0 (xZ G nn (xm G xYf (xup I 59 (sc (I 59) (if k = 10 then f else (pcT S n sp far (mRow I i)) 9) (if k = 10 then e else (pcX S n sp far (mRow I i)) 9)))) (some (.int (rUndo what (sBest (paceC (pcT S n sp far (mRow I i))) nI (fun k => xabs ((pcT S n sp far (mRow I i)) k 6)) (10 - k) k best least)))) 0 0) nn (xm G xYf (xup I 59 (sc (I 59) f e))) 0 0 61 [(0, .ref (xg G 59)), (1, .int (nI i)), (2, .int n), (3, .int sp), (4, .int far), (5, .int what), (6, .int best), (7, .int least), (8, .int (nI k))] []
theorem w_Model_pace (l : Launch) (G : xG) {d : Nat} (nn : Nat) (hd : 9 ≤ d) (I : xI) (ln i : Nat) (S : xSay) (hK : mK I ln S) (hi : i < 5) (n sp far what : Int32) (hs : ¬ sp < 0 ∧ sp ≤ 9) (hn : ¬ xabs n < 0) (hn2 : xabs n ≤ 100) (hfar : xin far 1 60 = true) (hm : ¬ I 61 i < 0 ∧ I 61 i ≤ 9) (k : Nat) (hk : k ≤ 10) (ih : k < 10 → 1 ≤ k + 1 → ∀ best least f e, Q_Model_pace l G d nn I i S n sp far what (k + 1) best least f e) (h1 : 1 ≤ k) (best least : Int32) (f : Nat → Int32) (e : Int32) : Q_Model_pace l G d nn I i S n sp far what k best least f e := by
  unfold Q_Model_pace
  refine X_iload d_Model_pace_61 rfl ?_
  refine X_bipush (v := 9) d_Model_pace_63 rfl ?_
  refine X_icmp_gt (tgt := 159) d_Model_pace_65 (by decide) (fun c_1 => ?_) (fun c_1 => ?_)
  ·
    have hz : k = 10 := by have := (nI_ltI (a := 9) (by decide) (by omega)).mp c_1; omega
    subst hz
    refine X_iload d_Model_pace_159 rfl ?_
    refine X_if_ne (tgt := 169) d_Model_pace_161 (by decide) (fun c_2 => ?_) (fun c_2 => ?_)
    ·
      refine X_iload d_Model_pace_169 rfl ?_
      exact X_iret rfl (congrArg (fun q => some (Value.int q)) (by rw [rUndo, if_neg c_2]; rfl)) (xle_rf _) d_Model_pace_171
    ·
      refine X_iload d_Model_pace_164 rfl ?_
      refine X_goto (tgt := 171) d_Model_pace_166 (by decide) ?_
      exact X_iret rfl (congrArg (fun q => some (Value.int q)) (by rw [rUndo, if_pos c_2]; rfl)) (xle_rf _) d_Model_pace_171
  ·
    have hlt : k < 10 := Nat.lt_of_not_le (fun z => c_1 (show nI 9 < nI k from nI_lt (by omega) (by omega)))
    have hz : 10 - k = (10 - (k + 1)) + 1 := by omega
    have hk0 := nI_nz (k := k) (by omega) (by omega)
    have hsec := pk_sec hfar h1 (show k ≤ 9 by omega)
    refine X_aload_n d_Model_pace_68 rfl rfl ?_
    refine X_iload_n d_Model_pace_69 rfl rfl ?_
    refine X_iload_n d_Model_pace_70 rfl rfl ?_
    refine X_iload_n d_Model_pace_71 rfl rfl ?_
    refine X_iconst (v := 0) d_Model_pace_72 rfl ?_
    refine X_iload d_Model_pace_73 rfl ?_
    refine X_iload d_Model_pace_75 rfl ?_
    refine X_iload d_Model_pace_77 rfl ?_
    refine X_iadd d_Model_pace_79 ?_
    refine X_iconst (v := 1) d_Model_pace_80 rfl ?_
    refine X_isub d_Model_pace_81 ?_
    refine X_iload d_Model_pace_82 rfl ?_
    refine X_idiv d_Model_pace_84 hk0 ?_
    refine X_callVv (rest := []) (by have q := c_Model_tries l G nn (d := d - 1) (by omega) I i (by omega) f e ln S hK n sp 0 (nI k) (((far + (nI k)) - 1) / (nI k)) hs hm hn hn2 (by decide) (by decide) hsec.1 hsec.2; exact q) lk_Model_tries ml_Model_218 (xm_obj (show xYf 59 = some sModel from rfl)) rfl rfl (Nat.le_of_ble_eq_true rfl) (xRok (d' := d - 1) (by omega) (by decide)) ⟨Nat.le_refl _, Nat.le_refl _⟩ d_Model_pace_85 rfl ?_
    refine X_aload_n d_Model_pace_88 rfl rfl ?_
    refine X_getI (v := (hGo S (nI k) 1 ((((far + (nI k)) - 1) / (nI k))).toNatClampNeg (tTry S n sp 0 (mRow I i))) 7) fg_Model_174 (show xYf 59 = some sModel from rfl) rfl ((congrFun (xup_s _ _ _) _).trans (sc_32 _ _ _)) d_Model_pace_89 ?_
    refine X_if_ne (tgt := 117) d_Model_pace_92 (by decide) (fun c_3 => ?_) (fun c_3 => ?_)
    ·
      refine X_iconst (v := 0) d_Model_pace_117 rfl ?_
      refine X_istore d_Model_pace_118 (by decide) [1, 2, 3, 4, 5, 6, 7, 8, 9, 0] (L' := [(0, .ref (xg G 59)), (1, .int (nI i)), (2, .int n), (3, .int sp), (4, .int far), (5, .int what), (6, .int best), (7, .int least), (8, .int (nI k)), (9, .int 0)]) rfl ?_
      refine X_iload d_Model_pace_120 rfl ?_
      refine X_if_eq (tgt := 130) d_Model_pace_122 (by decide) (fun _ => ?_) (fun c_4 => absurd c_4 (by decide))
      refine X_iload d_Model_pace_130 rfl ?_
      refine X_istore d_Model_pace_132 (by decide) [1, 2, 3, 4, 5, 6, 0, 7, 8, 9] (L' := [(0, .ref (xg G 59)), (1, .int (nI i)), (2, .int n), (3, .int sp), (4, .int far), (5, .int what), (6, .int best), (7, .int least), (8, .int (nI k)), (9, .int 0)]) rfl ?_
      refine X_iload d_Model_pace_134 rfl ?_
      refine X_if_eq (tgt := 149) d_Model_pace_136 (by decide) (fun _ => ?_) (fun c_5 => absurd c_5 (by decide))
      refine X_iload d_Model_pace_149 rfl ?_
      refine X_istore d_Model_pace_151 (by decide) [1, 2, 3, 4, 5, 6, 7, 0, 8, 9] (L' := [(0, .ref (xg G 59)), (1, .int (nI i)), (2, .int n), (3, .int sp), (4, .int far), (5, .int what), (6, .int best), (7, .int least), (8, .int (nI k)), (9, .int 0)]) rfl ?_
      refine X_iinc d_Model_pace_153 rfl (v := (nI k) + 1) rfl (by decide) [1, 2, 3, 4, 5, 6, 7, 8, 0, 9] (L' := [(0, .ref (xg G 59)), (1, .int (nI i)), (2, .int n), (3, .int sp), (4, .int far), (5, .int what), (6, .int best), (7, .int least), (8, .int ((nI k) + 1)), (9, .int 0)]) rfl ?_
      refine X_goto (tgt := 61) d_Model_pace_156 (by decide) ?_
      have hC : ¬ paceC (pcT S n sp far (mRow I i)) k best least = true := by unfold paceC pcT; grind
      have key := ih hlt (by omega) best least (hGo S (nI k) 1 ((((far + (nI k)) - 1) / (nI k))).toNatClampNeg (tTry S n sp 0 (mRow I i))) (mEs S (nI k) 1 (tTry S n sp 0 (mRow I i)) (-1) ((((far + (nI k)) - 1) / (nI k))).toNatClampNeg)
      unfold Q_Model_pace at key
      have e2 : (if k + 1 = 10 then (hGo S (nI k) 1 ((((far + (nI k)) - 1) / (nI k))).toNatClampNeg (tTry S n sp 0 (mRow I i))) else ((pcT S n sp far (mRow I i)) 9)) = ((pcT S n sp far (mRow I i)) 9) := mIf (fun z => by rw [show (9 : Nat) = k by omega]; rfl)
      have e3 : (if k + 1 = 10 then ((mEs S (nI k) 1 (tTry S n sp 0 (mRow I i)) (-1) ((((far + (nI k)) - 1) / (nI k))).toNatClampNeg) : Int32) else ((pcX S n sp far (mRow I i)) 9)) = ((pcX S n sp far (mRow I i)) 9) := mIf (fun z => by rw [show (9 : Nat) = k by omega]; rfl)
      rw [e2, e3] at key
      rw [if_neg (show ¬ k = 10 by omega), if_neg (show ¬ k = 10 by omega), hz, sBest_n hC, nI_1]
      refine X_sub [0, 1, 2, 3, 4, 5, 6, 7, 8] (L' := [(0, .ref (xg G 59)), (1, .int (nI i)), (2, .int n), (3, .int sp), (4, .int far), (5, .int what), (6, .int best), (7, .int least), (8, .int (nI (k + 1)))]) rfl ?_
      exact key
    ·
      refine X_iload d_Model_pace_95 rfl ?_
      refine X_iconst (v := -1) d_Model_pace_97 rfl ?_
      refine X_icmp_eq (tgt := 113) d_Model_pace_98 (by decide) (fun c_6 => ?_) (fun c_6 => ?_)
      ·
        refine X_iconst (v := 1) d_Model_pace_113 rfl ?_
        refine X_goto (tgt := 118) d_Model_pace_114 (by decide) ?_
        refine X_istore d_Model_pace_118 (by decide) [1, 2, 3, 4, 5, 6, 7, 8, 9, 0] (L' := [(0, .ref (xg G 59)), (1, .int (nI i)), (2, .int n), (3, .int sp), (4, .int far), (5, .int what), (6, .int best), (7, .int least), (8, .int (nI k)), (9, .int 1)]) rfl ?_
        refine X_iload d_Model_pace_120 rfl ?_
        refine X_if_eq (tgt := 130) d_Model_pace_122 (by decide) (fun c_7 => absurd c_7 (by decide)) (fun _ => ?_)
        refine X_iload d_Model_pace_125 rfl ?_
        refine X_goto (tgt := 132) d_Model_pace_127 (by decide) ?_
        refine X_istore d_Model_pace_132 (by decide) [1, 2, 3, 4, 5, 6, 0, 7, 8, 9] (L' := [(0, .ref (xg G 59)), (1, .int (nI i)), (2, .int n), (3, .int sp), (4, .int far), (5, .int what), (6, .int (nI k)), (7, .int least), (8, .int (nI k)), (9, .int 1)]) rfl ?_
        refine X_iload d_Model_pace_134 rfl ?_
        refine X_if_eq (tgt := 149) d_Model_pace_136 (by decide) (fun c_8 => absurd c_8 (by decide)) (fun _ => ?_)
        refine X_aload_n d_Model_pace_139 rfl rfl ?_
        refine X_getI (v := (hGo S (nI k) 1 ((((far + (nI k)) - 1) / (nI k))).toNatClampNeg (tTry S n sp 0 (mRow I i))) 6) fg_Model_186 (show xYf 59 = some sModel from rfl) rfl ((congrFun (xup_s _ _ _) _).trans (sc_31 _ _ _)) d_Model_pace_140 ?_
        refine X_callS (v := .int (xabs ((hGo S (nI k) 1 ((((far + (nI k)) - 1) / (nI k))).toNatClampNeg (tTry S n sp 0 (mRow I i))) 6))) (rest := []) (c_Model_size0 l G nn _ (by omega) ((hGo S (nI k) 1 ((((far + (nI k)) - 1) / (nI k))).toNatClampNeg (tTry S n sp 0 (mRow I i))) 6)) lk_Model_size0 ml_Model_164 rfl (Nat.le_of_ble_eq_true rfl) (xRok (d' := d - 1) (by omega) (by decide)) ⟨Nat.le_refl _, Nat.le_refl _⟩ d_Model_pace_143 rfl ?_
        refine X_goto (tgt := 151) d_Model_pace_146 (by decide) ?_
        refine X_istore d_Model_pace_151 (by decide) [1, 2, 3, 4, 5, 6, 7, 0, 8, 9] (L' := [(0, .ref (xg G 59)), (1, .int (nI i)), (2, .int n), (3, .int sp), (4, .int far), (5, .int what), (6, .int (nI k)), (7, .int (xabs ((hGo S (nI k) 1 ((((far + (nI k)) - 1) / (nI k))).toNatClampNeg (tTry S n sp 0 (mRow I i))) 6))), (8, .int (nI k)), (9, .int 1)]) rfl ?_
        refine X_iinc d_Model_pace_153 rfl (v := (nI k) + 1) rfl (by decide) [1, 2, 3, 4, 5, 6, 7, 8, 0, 9] (L' := [(0, .ref (xg G 59)), (1, .int (nI i)), (2, .int n), (3, .int sp), (4, .int far), (5, .int what), (6, .int (nI k)), (7, .int (xabs ((hGo S (nI k) 1 ((((far + (nI k)) - 1) / (nI k))).toNatClampNeg (tTry S n sp 0 (mRow I i))) 6))), (8, .int ((nI k) + 1)), (9, .int 1)]) rfl ?_
        refine X_goto (tgt := 61) d_Model_pace_156 (by decide) ?_
        have hC : paceC (pcT S n sp far (mRow I i)) k best least = true := by unfold paceC pcT; grind
        have key := ih hlt (by omega) (nI k) (xabs ((hGo S (nI k) 1 ((((far + (nI k)) - 1) / (nI k))).toNatClampNeg (tTry S n sp 0 (mRow I i))) 6)) (hGo S (nI k) 1 ((((far + (nI k)) - 1) / (nI k))).toNatClampNeg (tTry S n sp 0 (mRow I i))) (mEs S (nI k) 1 (tTry S n sp 0 (mRow I i)) (-1) ((((far + (nI k)) - 1) / (nI k))).toNatClampNeg)
        unfold Q_Model_pace at key
        have e2 : (if k + 1 = 10 then (hGo S (nI k) 1 ((((far + (nI k)) - 1) / (nI k))).toNatClampNeg (tTry S n sp 0 (mRow I i))) else ((pcT S n sp far (mRow I i)) 9)) = ((pcT S n sp far (mRow I i)) 9) := mIf (fun z => by rw [show (9 : Nat) = k by omega]; rfl)
        have e3 : (if k + 1 = 10 then ((mEs S (nI k) 1 (tTry S n sp 0 (mRow I i)) (-1) ((((far + (nI k)) - 1) / (nI k))).toNatClampNeg) : Int32) else ((pcX S n sp far (mRow I i)) 9)) = ((pcX S n sp far (mRow I i)) 9) := mIf (fun z => by rw [show (9 : Nat) = k by omega]; rfl)
        rw [e2, e3] at key
        rw [if_neg (show ¬ k = 10 by omega), if_neg (show ¬ k = 10 by omega), hz, sBest_y hC, nI_1]
        refine X_sub [0, 1, 2, 3, 4, 5, 6, 7, 8] (L' := [(0, .ref (xg G 59)), (1, .int (nI i)), (2, .int n), (3, .int sp), (4, .int far), (5, .int what), (6, .int (nI k)), (7, .int (xabs ((hGo S (nI k) 1 ((((far + (nI k)) - 1) / (nI k))).toNatClampNeg (tTry S n sp 0 (mRow I i))) 6))), (8, .int (nI (k + 1)))]) rfl ?_
        exact key
      ·
        refine X_aload_n d_Model_pace_101 rfl rfl ?_
        refine X_getI (v := (hGo S (nI k) 1 ((((far + (nI k)) - 1) / (nI k))).toNatClampNeg (tTry S n sp 0 (mRow I i))) 6) fg_Model_186 (show xYf 59 = some sModel from rfl) rfl ((congrFun (xup_s _ _ _) _).trans (sc_31 _ _ _)) d_Model_pace_102 ?_
        refine X_callS (v := .int (xabs ((hGo S (nI k) 1 ((((far + (nI k)) - 1) / (nI k))).toNatClampNeg (tTry S n sp 0 (mRow I i))) 6))) (rest := []) (c_Model_size0 l G nn _ (by omega) ((hGo S (nI k) 1 ((((far + (nI k)) - 1) / (nI k))).toNatClampNeg (tTry S n sp 0 (mRow I i))) 6)) lk_Model_size0 ml_Model_164 rfl (Nat.le_of_ble_eq_true rfl) (xRok (d' := d - 1) (by omega) (by decide)) ⟨Nat.le_refl _, Nat.le_refl _⟩ d_Model_pace_105 rfl ?_
        refine X_iload d_Model_pace_108 rfl ?_
        refine X_icmp_gt (tgt := 117) d_Model_pace_110 (by decide) (fun c_9 => ?_) (fun c_9 => ?_)
        ·
          refine X_iconst (v := 0) d_Model_pace_117 rfl ?_
          refine X_istore d_Model_pace_118 (by decide) [1, 2, 3, 4, 5, 6, 7, 8, 9, 0] (L' := [(0, .ref (xg G 59)), (1, .int (nI i)), (2, .int n), (3, .int sp), (4, .int far), (5, .int what), (6, .int best), (7, .int least), (8, .int (nI k)), (9, .int 0)]) rfl ?_
          refine X_iload d_Model_pace_120 rfl ?_
          refine X_if_eq (tgt := 130) d_Model_pace_122 (by decide) (fun _ => ?_) (fun c_10 => absurd c_10 (by decide))
          refine X_iload d_Model_pace_130 rfl ?_
          refine X_istore d_Model_pace_132 (by decide) [1, 2, 3, 4, 5, 6, 0, 7, 8, 9] (L' := [(0, .ref (xg G 59)), (1, .int (nI i)), (2, .int n), (3, .int sp), (4, .int far), (5, .int what), (6, .int best), (7, .int least), (8, .int (nI k)), (9, .int 0)]) rfl ?_
          refine X_iload d_Model_pace_134 rfl ?_
          refine X_if_eq (tgt := 149) d_Model_pace_136 (by decide) (fun _ => ?_) (fun c_11 => absurd c_11 (by decide))
          refine X_iload d_Model_pace_149 rfl ?_
          refine X_istore d_Model_pace_151 (by decide) [1, 2, 3, 4, 5, 6, 7, 0, 8, 9] (L' := [(0, .ref (xg G 59)), (1, .int (nI i)), (2, .int n), (3, .int sp), (4, .int far), (5, .int what), (6, .int best), (7, .int least), (8, .int (nI k)), (9, .int 0)]) rfl ?_
          refine X_iinc d_Model_pace_153 rfl (v := (nI k) + 1) rfl (by decide) [1, 2, 3, 4, 5, 6, 7, 8, 0, 9] (L' := [(0, .ref (xg G 59)), (1, .int (nI i)), (2, .int n), (3, .int sp), (4, .int far), (5, .int what), (6, .int best), (7, .int least), (8, .int ((nI k) + 1)), (9, .int 0)]) rfl ?_
          refine X_goto (tgt := 61) d_Model_pace_156 (by decide) ?_
          have hC : ¬ paceC (pcT S n sp far (mRow I i)) k best least = true := by unfold paceC pcT; grind
          have key := ih hlt (by omega) best least (hGo S (nI k) 1 ((((far + (nI k)) - 1) / (nI k))).toNatClampNeg (tTry S n sp 0 (mRow I i))) (mEs S (nI k) 1 (tTry S n sp 0 (mRow I i)) (-1) ((((far + (nI k)) - 1) / (nI k))).toNatClampNeg)
          unfold Q_Model_pace at key
          have e2 : (if k + 1 = 10 then (hGo S (nI k) 1 ((((far + (nI k)) - 1) / (nI k))).toNatClampNeg (tTry S n sp 0 (mRow I i))) else ((pcT S n sp far (mRow I i)) 9)) = ((pcT S n sp far (mRow I i)) 9) := mIf (fun z => by rw [show (9 : Nat) = k by omega]; rfl)
          have e3 : (if k + 1 = 10 then ((mEs S (nI k) 1 (tTry S n sp 0 (mRow I i)) (-1) ((((far + (nI k)) - 1) / (nI k))).toNatClampNeg) : Int32) else ((pcX S n sp far (mRow I i)) 9)) = ((pcX S n sp far (mRow I i)) 9) := mIf (fun z => by rw [show (9 : Nat) = k by omega]; rfl)
          rw [e2, e3] at key
          rw [if_neg (show ¬ k = 10 by omega), if_neg (show ¬ k = 10 by omega), hz, sBest_n hC, nI_1]
          refine X_sub [0, 1, 2, 3, 4, 5, 6, 7, 8] (L' := [(0, .ref (xg G 59)), (1, .int (nI i)), (2, .int n), (3, .int sp), (4, .int far), (5, .int what), (6, .int best), (7, .int least), (8, .int (nI (k + 1)))]) rfl ?_
          exact key
        ·
          refine X_iconst (v := 1) d_Model_pace_113 rfl ?_
          refine X_goto (tgt := 118) d_Model_pace_114 (by decide) ?_
          refine X_istore d_Model_pace_118 (by decide) [1, 2, 3, 4, 5, 6, 7, 8, 9, 0] (L' := [(0, .ref (xg G 59)), (1, .int (nI i)), (2, .int n), (3, .int sp), (4, .int far), (5, .int what), (6, .int best), (7, .int least), (8, .int (nI k)), (9, .int 1)]) rfl ?_
          refine X_iload d_Model_pace_120 rfl ?_
          refine X_if_eq (tgt := 130) d_Model_pace_122 (by decide) (fun c_12 => absurd c_12 (by decide)) (fun _ => ?_)
          refine X_iload d_Model_pace_125 rfl ?_
          refine X_goto (tgt := 132) d_Model_pace_127 (by decide) ?_
          refine X_istore d_Model_pace_132 (by decide) [1, 2, 3, 4, 5, 6, 0, 7, 8, 9] (L' := [(0, .ref (xg G 59)), (1, .int (nI i)), (2, .int n), (3, .int sp), (4, .int far), (5, .int what), (6, .int (nI k)), (7, .int least), (8, .int (nI k)), (9, .int 1)]) rfl ?_
          refine X_iload d_Model_pace_134 rfl ?_
          refine X_if_eq (tgt := 149) d_Model_pace_136 (by decide) (fun c_13 => absurd c_13 (by decide)) (fun _ => ?_)
          refine X_aload_n d_Model_pace_139 rfl rfl ?_
          refine X_getI (v := (hGo S (nI k) 1 ((((far + (nI k)) - 1) / (nI k))).toNatClampNeg (tTry S n sp 0 (mRow I i))) 6) fg_Model_186 (show xYf 59 = some sModel from rfl) rfl ((congrFun (xup_s _ _ _) _).trans (sc_31 _ _ _)) d_Model_pace_140 ?_
          refine X_callS (v := .int (xabs ((hGo S (nI k) 1 ((((far + (nI k)) - 1) / (nI k))).toNatClampNeg (tTry S n sp 0 (mRow I i))) 6))) (rest := []) (c_Model_size0 l G nn _ (by omega) ((hGo S (nI k) 1 ((((far + (nI k)) - 1) / (nI k))).toNatClampNeg (tTry S n sp 0 (mRow I i))) 6)) lk_Model_size0 ml_Model_164 rfl (Nat.le_of_ble_eq_true rfl) (xRok (d' := d - 1) (by omega) (by decide)) ⟨Nat.le_refl _, Nat.le_refl _⟩ d_Model_pace_143 rfl ?_
          refine X_goto (tgt := 151) d_Model_pace_146 (by decide) ?_
          refine X_istore d_Model_pace_151 (by decide) [1, 2, 3, 4, 5, 6, 7, 0, 8, 9] (L' := [(0, .ref (xg G 59)), (1, .int (nI i)), (2, .int n), (3, .int sp), (4, .int far), (5, .int what), (6, .int (nI k)), (7, .int (xabs ((hGo S (nI k) 1 ((((far + (nI k)) - 1) / (nI k))).toNatClampNeg (tTry S n sp 0 (mRow I i))) 6))), (8, .int (nI k)), (9, .int 1)]) rfl ?_
          refine X_iinc d_Model_pace_153 rfl (v := (nI k) + 1) rfl (by decide) [1, 2, 3, 4, 5, 6, 7, 8, 0, 9] (L' := [(0, .ref (xg G 59)), (1, .int (nI i)), (2, .int n), (3, .int sp), (4, .int far), (5, .int what), (6, .int (nI k)), (7, .int (xabs ((hGo S (nI k) 1 ((((far + (nI k)) - 1) / (nI k))).toNatClampNeg (tTry S n sp 0 (mRow I i))) 6))), (8, .int ((nI k) + 1)), (9, .int 1)]) rfl ?_
          refine X_goto (tgt := 61) d_Model_pace_156 (by decide) ?_
          have hC : paceC (pcT S n sp far (mRow I i)) k best least = true := by unfold paceC pcT; grind
          have key := ih hlt (by omega) (nI k) (xabs ((hGo S (nI k) 1 ((((far + (nI k)) - 1) / (nI k))).toNatClampNeg (tTry S n sp 0 (mRow I i))) 6)) (hGo S (nI k) 1 ((((far + (nI k)) - 1) / (nI k))).toNatClampNeg (tTry S n sp 0 (mRow I i))) (mEs S (nI k) 1 (tTry S n sp 0 (mRow I i)) (-1) ((((far + (nI k)) - 1) / (nI k))).toNatClampNeg)
          unfold Q_Model_pace at key
          have e2 : (if k + 1 = 10 then (hGo S (nI k) 1 ((((far + (nI k)) - 1) / (nI k))).toNatClampNeg (tTry S n sp 0 (mRow I i))) else ((pcT S n sp far (mRow I i)) 9)) = ((pcT S n sp far (mRow I i)) 9) := mIf (fun z => by rw [show (9 : Nat) = k by omega]; rfl)
          have e3 : (if k + 1 = 10 then ((mEs S (nI k) 1 (tTry S n sp 0 (mRow I i)) (-1) ((((far + (nI k)) - 1) / (nI k))).toNatClampNeg) : Int32) else ((pcX S n sp far (mRow I i)) 9)) = ((pcX S n sp far (mRow I i)) 9) := mIf (fun z => by rw [show (9 : Nat) = k by omega]; rfl)
          rw [e2, e3] at key
          rw [if_neg (show ¬ k = 10 by omega), if_neg (show ¬ k = 10 by omega), hz, sBest_y hC, nI_1]
          refine X_sub [0, 1, 2, 3, 4, 5, 6, 7, 8] (L' := [(0, .ref (xg G 59)), (1, .int (nI i)), (2, .int n), (3, .int sp), (4, .int far), (5, .int what), (6, .int (nI k)), (7, .int (xabs ((hGo S (nI k) 1 ((((far + (nI k)) - 1) / (nI k))).toNatClampNeg (tTry S n sp 0 (mRow I i))) 6))), (8, .int (nI (k + 1)))]) rfl ?_
          exact key
def aPaceM (hc : Nat) (L : xSay) (R : Nat → Nat → Int32) (h n sp far what : Int32) : Int32 := if xin h 0 (nI hc - 1) = true then (if xin n (-40) 40 = true ∧ xin sp 1 9 = true ∧ xin far 1 60 = true ∧ xin what 0 1 = true then rUndo what (sBest (paceC (pcT L n sp far (R h.toNatClampNeg))) nI (fun k => xabs (pcT L n sp far (R h.toNatClampNeg) k 6)) (10 - 1) 1 (-1) (-1)) else -100007) else -100005
theorem c_Model_pace (l : Launch) (G : xG) {d : Nat} (nn : Nat) (hd : 9 ≤ d) (I : xI) (hc tc ln : Nat) (SS : Nat → xSay) (hK0 : mOK I hc tc ln SS) (h n sp far what : Int32) : XM l G d y_Model_pace b_Model_pace 10 (some .int) 0 0 xK0 [.ref (xg G 59), .int h, .int n, .int sp, .int far, .int what] nn (xm G xYf I) (some (.int (aPaceM hc (SS ln) (mRow I) h n sp far what))) nn (xm G xYf (if xin h 0 (nI hc - 1) = true ∧ xin n (-40) 40 = true ∧ xin sp 1 9 = true ∧ xin far 1 60 = true ∧ xin what 0 1 = true then xup I 59 (sc (I 59) (pcT (SS ln) n sp far (mRow I h.toNatClampNeg) 9) (pcX (SS ln) n sp far (mRow I h.toNatClampNeg) 9)) else I)) := by
  obtain ⟨⟨h0, h5⟩, ⟨h8, h6⟩, ⟨h9, hl⟩, hTs, hR⟩ := id hK0
  have hK : mK I ln (SS ln) := ⟨hTs ln hl, h9, by omega⟩
  generalize hSS : SS ln = S at hK ⊢
  refine XM.of (by decide) (Nat.le_of_ble_eq_true rfl) (L := [(0, .ref (xg G 59)), (1, .int h), (2, .int n), (3, .int sp), (4, .int far), (5, .int what)]) rfl ?_
  refine X_aload_n d_Model_pace_0 rfl rfl ?_
  refine X_iload_n d_Model_pace_1 rfl rfl ?_
  refine X_callV (v := .int (xb (xin h 0 (nI hc - 1)))) (rest := []) (c_Model_isHead l G nn (by omega) I hc tc ln SS hK0 h) lk_Model_isHead ml_Model_149 (xm_obj (show xYf 59 = some sModel from rfl)) rfl rfl (Nat.le_of_ble_eq_true rfl) (xRok (d' := d - 1) (by omega) (by decide)) ⟨Nat.le_refl _, Nat.le_refl _⟩ d_Model_pace_2 rfl ?_
  refine X_ifb_ne (tgt := 11) d_Model_pace_5 (by decide) (fun c_1 => ?_) (fun c_1 => ?_)
  ·
    obtain ⟨i, hi, rfl⟩ := cHead h5 c_1
    refine X_iload_n d_Model_pace_11 rfl rfl ?_
    refine X_callS (v := .int (xb (xin n (-40) 40))) (rest := []) (c_Model_isTurned l G nn _ (by omega) n) lk_Model_isTurned ml_Model_193 rfl (Nat.le_of_ble_eq_true rfl) (xRok (d' := d - 1) (by omega) (by decide)) ⟨Nat.le_refl _, Nat.le_refl _⟩ d_Model_pace_12 rfl ?_
    refine X_ifb_eq (tgt := 49) d_Model_pace_15 (by decide) (fun c_2 => ?_) (fun c_2 => ?_)
    ·
      refine X_ldc cs_Model_157 d_Model_pace_49 ?_
      exact X_iret rfl (congrArg (fun q => some (Value.int q)) (by subst hSS; first | (simp [aPaceM, c_1, nI_cl (show i < 2 ^ 31 by omega), c_2, xl_1_0, xl_1_1, xl_2_0, xl_2_1, xl_2_2, xl_3_0, xl_3_1, xl_3_2, xl_3_3]; done) | (exfalso; simp_all; done) | (clear hTs hR hK0 hK; simp_all [aPaceM, nI_cl (show i < 2 ^ 31 by omega)]; done))) (xle_of (congrArg (xm G xYf) (by first | (subst hSS; simp [c_1, nI_cl (show i < 2 ^ 31 by omega), c_2, xl_3_0, xl_3_1, xl_3_2, xl_3_3, xl_2_0, xl_2_1, xl_2_2, xl_1_0, xl_1_1]; done) | (exfalso; simp_all; done)))) d_Model_pace_51
    ·
      refine X_iload_n d_Model_pace_18 rfl rfl ?_
      refine X_iconst (v := 1) d_Model_pace_19 rfl ?_
      refine X_bipush (v := 9) d_Model_pace_20 rfl ?_
      refine X_callS (v := .int (xb (xin sp 1 9))) (rest := []) (c_Model_in l G nn _ (by omega) sp 1 9) lk_Model_in ml_Model_66 rfl (Nat.le_of_ble_eq_true rfl) (xRok (d' := d - 1) (by omega) (by decide)) ⟨Nat.le_refl _, Nat.le_refl _⟩ d_Model_pace_22 rfl ?_
      refine X_ifb_eq (tgt := 49) d_Model_pace_25 (by decide) (fun c_3 => ?_) (fun c_3 => ?_)
      ·
        refine X_ldc cs_Model_157 d_Model_pace_49 ?_
        exact X_iret rfl (congrArg (fun q => some (Value.int q)) (by subst hSS; first | (simp [aPaceM, c_1, nI_cl (show i < 2 ^ 31 by omega), c_2, c_3, xl_1_0, xl_1_1, xl_2_0, xl_2_1, xl_2_2, xl_3_0, xl_3_1, xl_3_2, xl_3_3]; done) | (exfalso; simp_all; done) | (clear hTs hR hK0 hK; simp_all [aPaceM, nI_cl (show i < 2 ^ 31 by omega)]; done))) (xle_of (congrArg (xm G xYf) (by first | (subst hSS; simp [c_1, nI_cl (show i < 2 ^ 31 by omega), c_2, c_3, xl_3_0, xl_3_1, xl_3_2, xl_3_3, xl_2_0, xl_2_1, xl_2_2, xl_1_0, xl_1_1]; done) | (exfalso; simp_all; done)))) d_Model_pace_51
      ·
        refine X_iload d_Model_pace_28 rfl ?_
        refine X_iconst (v := 1) d_Model_pace_30 rfl ?_
        refine X_bipush (v := 60) d_Model_pace_31 rfl ?_
        refine X_callS (v := .int (xb (xin far 1 60))) (rest := []) (c_Model_in l G nn _ (by omega) far 1 60) lk_Model_in ml_Model_66 rfl (Nat.le_of_ble_eq_true rfl) (xRok (d' := d - 1) (by omega) (by decide)) ⟨Nat.le_refl _, Nat.le_refl _⟩ d_Model_pace_33 rfl ?_
        refine X_ifb_eq (tgt := 49) d_Model_pace_36 (by decide) (fun c_4 => ?_) (fun c_4 => ?_)
        ·
          refine X_ldc cs_Model_157 d_Model_pace_49 ?_
          exact X_iret rfl (congrArg (fun q => some (Value.int q)) (by subst hSS; first | (simp [aPaceM, c_1, nI_cl (show i < 2 ^ 31 by omega), c_2, c_3, c_4, xl_1_0, xl_1_1, xl_2_0, xl_2_1, xl_2_2, xl_3_0, xl_3_1, xl_3_2, xl_3_3]; done) | (exfalso; simp_all; done) | (clear hTs hR hK0 hK; simp_all [aPaceM, nI_cl (show i < 2 ^ 31 by omega)]; done))) (xle_of (congrArg (xm G xYf) (by first | (subst hSS; simp [c_1, nI_cl (show i < 2 ^ 31 by omega), c_2, c_3, c_4, xl_3_0, xl_3_1, xl_3_2, xl_3_3, xl_2_0, xl_2_1, xl_2_2, xl_1_0, xl_1_1]; done) | (exfalso; simp_all; done)))) d_Model_pace_51
        ·
          refine X_iload d_Model_pace_39 rfl ?_
          refine X_iconst (v := 0) d_Model_pace_41 rfl ?_
          refine X_iconst (v := 1) d_Model_pace_42 rfl ?_
          refine X_callS (v := .int (xb (xin what 0 1))) (rest := []) (c_Model_in l G nn _ (by omega) what 0 1) lk_Model_in ml_Model_66 rfl (Nat.le_of_ble_eq_true rfl) (xRok (d' := d - 1) (by omega) (by decide)) ⟨Nat.le_refl _, Nat.le_refl _⟩ d_Model_pace_43 rfl ?_
          refine X_ifb_ne (tgt := 52) d_Model_pace_46 (by decide) (fun c_5 => ?_) (fun c_5 => ?_)
          ·
            refine X_iconst (v := -1) d_Model_pace_52 rfl ?_
            refine X_istore d_Model_pace_53 (by decide) [1, 2, 3, 4, 5, 6, 0] (L' := [(0, .ref (xg G 59)), (1, .int (nI i)), (2, .int n), (3, .int sp), (4, .int far), (5, .int what), (6, .int (-1))]) rfl ?_
            refine X_iconst (v := -1) d_Model_pace_55 rfl ?_
            refine X_istore d_Model_pace_56 (by decide) [1, 2, 3, 4, 5, 6, 7, 0] (L' := [(0, .ref (xg G 59)), (1, .int (nI i)), (2, .int n), (3, .int sp), (4, .int far), (5, .int what), (6, .int (-1)), (7, .int (-1))]) rfl ?_
            refine X_iconst (v := 1) d_Model_pace_58 rfl ?_
            refine X_istore d_Model_pace_59 (by decide) [1, 2, 3, 4, 5, 6, 7, 8, 0] (L' := [(0, .ref (xg G 59)), (1, .int (nI i)), (2, .int n), (3, .int sp), (4, .int far), (5, .int what), (6, .int (-1)), (7, .int (-1)), (8, .int 1)]) rfl ?_
            have hx := xloop (Q := fun k => 1 ≤ k → ∀ best least f e, Q_Model_pace l G d nn I i S n sp far what k best least f e) (T := 10) (fun k hk ih h1 best least f e => w_Model_pace l G nn hd I ln i S hK (by omega) n sp far what (xin_sp c_3) (xin_abs c_2) (xin_abs2 c_2) c_4 (hR i (by omega)).1 k hk ih h1 best least f e) 1 (by decide) (by decide) (-1) (-1) (mCur I) (I 59 33)
            unfold Q_Model_pace at hx
            rw [sc_self, if_neg (by decide), if_neg (by decide)] at hx
            rw [aPaceM, if_pos c_1, if_pos ⟨c_1, c_2, c_3, c_4, c_5⟩, if_pos ⟨c_2, c_3, c_4, c_5⟩, nI_cl (show i < 2 ^ 31 by omega)]
            exact hx
          ·
            refine X_ldc cs_Model_157 d_Model_pace_49 ?_
            exact X_iret rfl (congrArg (fun q => some (Value.int q)) (by subst hSS; first | (simp [aPaceM, c_1, nI_cl (show i < 2 ^ 31 by omega), c_2, c_3, c_4, c_5, xl_1_0, xl_1_1, xl_2_0, xl_2_1, xl_2_2, xl_3_0, xl_3_1, xl_3_2, xl_3_3]; done) | (exfalso; simp_all; done) | (clear hTs hR hK0 hK; simp_all [aPaceM, nI_cl (show i < 2 ^ 31 by omega)]; done))) (xle_of (congrArg (xm G xYf) (by first | (subst hSS; simp [c_1, nI_cl (show i < 2 ^ 31 by omega), c_2, c_3, c_4, c_5, xl_3_0, xl_3_1, xl_3_2, xl_3_3, xl_2_0, xl_2_1, xl_2_2, xl_1_0, xl_1_1]; done) | (exfalso; simp_all; done)))) d_Model_pace_51
  ·
    refine X_ldc cs_Model_156 d_Model_pace_8 ?_
    exact X_iret rfl (congrArg (fun q => some (Value.int q)) (by subst hSS; first | (simp [aPaceM, c_1, xl_1_0, xl_1_1, xl_2_0, xl_2_1, xl_2_2, xl_3_0, xl_3_1, xl_3_2, xl_3_3]; done) | (exfalso; simp_all; done) | (clear hTs hR hK0 hK; simp_all [aPaceM]; done))) (xle_of (congrArg (xm G xYf) (by first | (subst hSS; simp [c_1, xl_3_0, xl_3_1, xl_3_2, xl_3_3, xl_2_0, xl_2_1, xl_2_2, xl_1_0, xl_1_1]; done) | (exfalso; simp_all; done)))) d_Model_pace_10
theorem mNum_n {k : Nat} (hk : k ≤ 80) : mNum (nI k) = if k % 2 = 1 then nI ((k + 1) / 2) else -(nI (k / 2)) := by
  have e1 : nI k - nI k / 2 * 2 = nI (k % 2) := q_rem (by omega) 2 (by decide) (by decide)
  have e2 : nI k / 2 = nI (k / 2) := q_div (by omega) 2 (by decide) (by decide)
  have e3 : (nI k + 1) / 2 = nI ((k + 1) / 2) := by rw [nI_1]; exact q_div (by omega) 2 (by decide) (by decide)
  unfold mNum
  rw [e1, e2, e3]
  by_cases h : k % 2 = 1
  · rw [if_pos h, h, if_pos (show nI 1 = 1 from rfl)]
  · rw [if_neg h, if_neg (show ¬ nI (k % 2) = 1 from fun z => h ((nI_eq (a := k % 2) (b := 1) (by omega) (by decide)).mp z))]
theorem mNum_abs {k : Nat} (hk : k ≤ 80) : xabs (mNum (nI k)) = nI ((k + 1) / 2) := by
  rw [mNum_n hk]
  by_cases h : k % 2 = 1
  · rw [if_pos h, xabs_n (by omega)]
  · rw [if_neg h, xabs_neg (by omega), show (k + 1) / 2 = k / 2 by omega]
theorem mNum_ok {k : Nat} (hk : k ≤ 80) : ¬ xabs (mNum (nI k)) < 0 ∧ xabs (mNum (nI k)) ≤ 100 := by
  rw [mNum_abs hk]
  exact ⟨nI_pos (by omega), (nI_leI (b := 100) (by omega) (by decide)).mpr (by omega)⟩
def roT (S : xSay) (sp sec : Int32) (F : Nat → Int32) (k : Nat) : Nat → Int32 := hGo S (sp - sp / 10 * 10) 1 sec.toNatClampNeg (tTry S (mNum (nI k)) (sp / 10) 0 F)
def roX (S : xSay) (sp sec : Int32) (F : Nat → Int32) (k : Nat) : Int32 := mEs S (sp - sp / 10 * 10) 1 (tTry S (mNum (nI k)) (sp / 10) 0 F) (-1) sec.toNatClampNeg
def roC (T : Nat → Nat → Int32) (a : Int32) : Nat → Int32 → Int32 → Bool := fun k _ l => decide (k = 0) || decide (xabs (T k 6 - a) < l)
def Q_Model_roses (l : Launch) (G : xG) (d nn : Nat) (I : xI) (i : Nat) (S : xSay) (sp sec a what : Int32) (k : Nat) (has best least : Int32) (f : Nat → Int32) (e : Int32) : Prop := (has = if k = 0 then 0 else 1) → XW l G (xR d 0 0) y_Model_roses b_Model_roses 11 (some .int) xK0 (xZ G nn (xm G xYf (xup I 59 (sc (I 59) (if k = 81 then f else (roT S sp sec (mRow I i)) 80) (if k = 81 then e else (roX S sp sec (mRow I i)) 80)))) (some (.int (rUndo what (sBest (roC (roT S sp sec (mRow I i)) a) (fun k => mNum (nI k)) (fun k => xabs ((roT S sp sec (mRow I i)) k 6 - a)) (81 - k) k best least)))) 0 0) nn (xm G xYf (xup I 59 (sc (I 59) f e))) 0 0 65 [(0, .ref (xg G 59)), (1, .int (nI i)), (2, .int sp), (3, .int sec), (4, .int a), (5, .int what), (6, .int has), (7, .int best), (8, .int least), (9, .int (nI k))] []
theorem w_Model_roses (l : Launch) (G : xG) {d : Nat} (nn : Nat) (hd : 9 ≤ d) (I : xI) (ln i : Nat) (S : xSay) (hK : mK I ln S) (hi : i < 5) (sp sec a what : Int32) (hs : ¬ sp / 10 < 0 ∧ sp / 10 ≤ 9) (hsec : ¬ sec < 0 ∧ sec ≤ 100) (hm : ¬ I 61 i < 0 ∧ I 61 i ≤ 9) (k : Nat) (hk : k ≤ 81) (ih : k < 81 → ∀ has best least f e, Q_Model_roses l G d nn I i S sp sec a what (k + 1) has best least f e) (has best least : Int32) (f : Nat → Int32) (e : Int32) : Q_Model_roses l G d nn I i S sp sec a what k has best least f e := by
  unfold Q_Model_roses
  intro hh
  refine X_iload d_Model_roses_65 rfl ?_
  refine X_bipush (v := 80) d_Model_roses_67 rfl ?_
  refine X_icmp_gt (tgt := 158) d_Model_roses_69 (by decide) (fun c_1 => ?_) (fun c_1 => ?_)
  ·
    have hz : k = 81 := by have := (nI_ltI (a := 80) (by decide) (by omega)).mp c_1; omega
    subst hz
    refine X_iload d_Model_roses_158 rfl ?_
    refine X_if_ne (tgt := 168) d_Model_roses_160 (by decide) (fun c_2 => ?_) (fun c_2 => ?_)
    ·
      refine X_iload d_Model_roses_168 rfl ?_
      exact X_iret rfl (congrArg (fun q => some (Value.int q)) (by rw [rUndo, if_neg c_2]; rfl)) (xle_rf _) d_Model_roses_170
    ·
      refine X_iload d_Model_roses_163 rfl ?_
      refine X_goto (tgt := 170) d_Model_roses_165 (by decide) ?_
      exact X_iret rfl (congrArg (fun q => some (Value.int q)) (by rw [rUndo, if_pos c_2]; rfl)) (xle_rf _) d_Model_roses_170
  ·
    have hlt : k < 81 := Nat.lt_of_not_le (fun z => c_1 (show nI 80 < nI k from nI_lt (by omega) (by omega)))
    have hz : 81 - k = (81 - (k + 1)) + 1 := by omega
    have hn := mNum_ok (show k ≤ 80 by omega)
    refine X_aload_n d_Model_roses_72 rfl rfl ?_
    refine X_iload_n d_Model_roses_73 rfl rfl ?_
    refine X_iload d_Model_roses_74 rfl ?_
    refine X_callS (v := .int (mNum (nI k))) (rest := [.int (nI i), .ref (xg G 59)]) (c_Model_byNumber l G nn _ (by omega) (nI k)) lk_Model_byNumber ml_Model_231 rfl (Nat.le_of_ble_eq_true rfl) (xRok (d' := d - 1) (by omega) (by decide)) ⟨Nat.le_refl _, Nat.le_refl _⟩ d_Model_roses_76 rfl ?_
    refine X_iload_n d_Model_roses_79 rfl rfl ?_
    refine X_bipush (v := 10) d_Model_roses_80 rfl ?_
    refine X_idiv d_Model_roses_82 (by decide) ?_
    refine X_iconst (v := 0) d_Model_roses_83 rfl ?_
    refine X_iload_n d_Model_roses_84 rfl rfl ?_
    refine X_bipush (v := 10) d_Model_roses_85 rfl ?_
    refine X_irem d_Model_roses_87 (by decide) ?_
    refine X_iload_n d_Model_roses_88 rfl rfl ?_
    refine X_callVv (rest := []) (by have q := c_Model_tries l G nn (d := d - 1) (by omega) I i (by omega) f e ln S hK (mNum (nI k)) (sp / 10) 0 (sp - sp / 10 * 10) sec hs hm hn.1 hn.2 (by decide) (by decide) hsec.1 hsec.2; exact q) lk_Model_tries ml_Model_218 (xm_obj (show xYf 59 = some sModel from rfl)) rfl rfl (Nat.le_of_ble_eq_true rfl) (xRok (d' := d - 1) (by omega) (by decide)) ⟨Nat.le_refl _, Nat.le_refl _⟩ d_Model_roses_89 rfl ?_
    refine X_aload_n d_Model_roses_92 rfl rfl ?_
    refine X_getI (v := (hGo S (sp - sp / 10 * 10) 1 (sec).toNatClampNeg (tTry S (mNum (nI k)) (sp / 10) 0 (mRow I i))) 6) fg_Model_186 (show xYf 59 = some sModel from rfl) rfl ((congrFun (xup_s _ _ _) _).trans (sc_31 _ _ _)) d_Model_roses_93 ?_
    refine X_iload d_Model_roses_96 rfl ?_
    refine X_isub d_Model_roses_98 ?_
    refine X_callS (v := .int (xabs (((hGo S (sp - sp / 10 * 10) 1 (sec).toNatClampNeg (tTry S (mNum (nI k)) (sp / 10) 0 (mRow I i))) 6) - a))) (rest := []) (c_Model_size0 l G nn _ (by omega) (((hGo S (sp - sp / 10 * 10) 1 (sec).toNatClampNeg (tTry S (mNum (nI k)) (sp / 10) 0 (mRow I i))) 6) - a)) lk_Model_size0 ml_Model_164 rfl (Nat.le_of_ble_eq_true rfl) (xRok (d' := d - 1) (by omega) (by decide)) ⟨Nat.le_refl _, Nat.le_refl _⟩ d_Model_roses_99 rfl ?_
    refine X_istore d_Model_roses_102 (by decide) [1, 2, 3, 4, 5, 6, 7, 8, 9, 10, 0] (L' := [(0, .ref (xg G 59)), (1, .int (nI i)), (2, .int sp), (3, .int sec), (4, .int a), (5, .int what), (6, .int has), (7, .int best), (8, .int least), (9, .int (nI k)), (10, .int (xabs (((hGo S (sp - sp / 10 * 10) 1 (sec).toNatClampNeg (tTry S (mNum (nI k)) (sp / 10) 0 (mRow I i))) 6) - a)))]) rfl ?_
    refine X_iload d_Model_roses_104 rfl ?_
    refine X_if_eq (tgt := 116) d_Model_roses_106 (by decide) (fun c_3 => ?_) (fun c_3 => ?_)
    ·
      refine X_iload d_Model_roses_116 rfl ?_
      refine X_callS (v := .int (mNum (nI k))) (rest := []) (c_Model_byNumber l G nn _ (by omega) (nI k)) lk_Model_byNumber ml_Model_231 rfl (Nat.le_of_ble_eq_true rfl) (xRok (d' := d - 1) (by omega) (by decide)) ⟨Nat.le_refl _, Nat.le_refl _⟩ d_Model_roses_118 rfl ?_
      refine X_goto (tgt := 126) d_Model_roses_121 (by decide) ?_
      refine X_istore d_Model_roses_126 (by decide) [1, 2, 3, 4, 5, 6, 7, 0, 8, 9, 10] (L' := [(0, .ref (xg G 59)), (1, .int (nI i)), (2, .int sp), (3, .int sec), (4, .int a), (5, .int what), (6, .int has), (7, .int (mNum (nI k))), (8, .int least), (9, .int (nI k)), (10, .int (xabs (((hGo S (sp - sp / 10 * 10) 1 (sec).toNatClampNeg (tTry S (mNum (nI k)) (sp / 10) 0 (mRow I i))) 6) - a)))]) rfl ?_
      refine X_iload d_Model_roses_128 rfl ?_
      refine X_if_eq (tgt := 140) d_Model_roses_130 (by decide) (fun _ => ?_) (fun c_4 => absurd c_3 c_4)
      refine X_iload d_Model_roses_140 rfl ?_
      refine X_goto (tgt := 147) d_Model_roses_142 (by decide) ?_
      refine X_istore d_Model_roses_147 (by decide) [1, 2, 3, 4, 5, 6, 7, 8, 0, 9, 10] (L' := [(0, .ref (xg G 59)), (1, .int (nI i)), (2, .int sp), (3, .int sec), (4, .int a), (5, .int what), (6, .int has), (7, .int (mNum (nI k))), (8, .int (xabs (((hGo S (sp - sp / 10 * 10) 1 (sec).toNatClampNeg (tTry S (mNum (nI k)) (sp / 10) 0 (mRow I i))) 6) - a))), (9, .int (nI k)), (10, .int (xabs (((hGo S (sp - sp / 10 * 10) 1 (sec).toNatClampNeg (tTry S (mNum (nI k)) (sp / 10) 0 (mRow I i))) 6) - a)))]) rfl ?_
      refine X_iconst (v := 1) d_Model_roses_149 rfl ?_
      refine X_istore d_Model_roses_150 (by decide) [1, 2, 3, 4, 5, 6, 0, 7, 8, 9, 10] (L' := [(0, .ref (xg G 59)), (1, .int (nI i)), (2, .int sp), (3, .int sec), (4, .int a), (5, .int what), (6, .int 1), (7, .int (mNum (nI k))), (8, .int (xabs (((hGo S (sp - sp / 10 * 10) 1 (sec).toNatClampNeg (tTry S (mNum (nI k)) (sp / 10) 0 (mRow I i))) 6) - a))), (9, .int (nI k)), (10, .int (xabs (((hGo S (sp - sp / 10 * 10) 1 (sec).toNatClampNeg (tTry S (mNum (nI k)) (sp / 10) 0 (mRow I i))) 6) - a)))]) rfl ?_
      refine X_iinc d_Model_roses_152 rfl (v := (nI k) + 1) rfl (by decide) [1, 2, 3, 4, 5, 6, 7, 8, 9, 0, 10] (L' := [(0, .ref (xg G 59)), (1, .int (nI i)), (2, .int sp), (3, .int sec), (4, .int a), (5, .int what), (6, .int 1), (7, .int (mNum (nI k))), (8, .int (xabs (((hGo S (sp - sp / 10 * 10) 1 (sec).toNatClampNeg (tTry S (mNum (nI k)) (sp / 10) 0 (mRow I i))) 6) - a))), (9, .int ((nI k) + 1)), (10, .int (xabs (((hGo S (sp - sp / 10 * 10) 1 (sec).toNatClampNeg (tTry S (mNum (nI k)) (sp / 10) 0 (mRow I i))) 6) - a)))]) rfl ?_
      refine X_goto (tgt := 65) d_Model_roses_155 (by decide) ?_
      have hC : roC (roT S sp sec (mRow I i)) a k best least = true := by unfold roC roT; (have hq : has = 0 → k = 0 := fun z => by (by_cases y : k = 0; exact y; rw [if_neg y] at hh; rw [hh] at z; exact absurd z (by decide))); (have hq2 : k = 0 → has = 0 := fun z => by rw [hh, if_pos z]); grind
      have key := ih hlt 1 (mNum (nI k)) (xabs (((hGo S (sp - sp / 10 * 10) 1 (sec).toNatClampNeg (tTry S (mNum (nI k)) (sp / 10) 0 (mRow I i))) 6) - a)) (hGo S (sp - sp / 10 * 10) 1 (sec).toNatClampNeg (tTry S (mNum (nI k)) (sp / 10) 0 (mRow I i))) (mEs S (sp - sp / 10 * 10) 1 (tTry S (mNum (nI k)) (sp / 10) 0 (mRow I i)) (-1) (sec).toNatClampNeg) (if_neg (by omega)).symm
      unfold Q_Model_roses at key
      have e2 : (if k + 1 = 81 then (hGo S (sp - sp / 10 * 10) 1 (sec).toNatClampNeg (tTry S (mNum (nI k)) (sp / 10) 0 (mRow I i))) else ((roT S sp sec (mRow I i)) 80)) = ((roT S sp sec (mRow I i)) 80) := mIf (fun z => by rw [show (80 : Nat) = k by omega]; rfl)
      have e3 : (if k + 1 = 81 then ((mEs S (sp - sp / 10 * 10) 1 (tTry S (mNum (nI k)) (sp / 10) 0 (mRow I i)) (-1) (sec).toNatClampNeg) : Int32) else ((roX S sp sec (mRow I i)) 80)) = ((roX S sp sec (mRow I i)) 80) := mIf (fun z => by rw [show (80 : Nat) = k by omega]; rfl)
      rw [e2, e3] at key
      rw [if_neg (show ¬ k = 81 by omega), if_neg (show ¬ k = 81 by omega), hz, sBest_y hC, nI_1]
      refine X_sub [0, 1, 2, 3, 4, 5, 6, 7, 8, 9] (L' := [(0, .ref (xg G 59)), (1, .int (nI i)), (2, .int sp), (3, .int sec), (4, .int a), (5, .int what), (6, .int 1), (7, .int (mNum (nI k))), (8, .int (xabs (((hGo S (sp - sp / 10 * 10) 1 (sec).toNatClampNeg (tTry S (mNum (nI k)) (sp / 10) 0 (mRow I i))) 6) - a))), (9, .int (nI (k + 1)))]) rfl ?_
      exact key
    ·
      refine X_iload d_Model_roses_109 rfl ?_
      refine X_iload d_Model_roses_111 rfl ?_
      refine X_icmp_ge (tgt := 124) d_Model_roses_113 (by decide) (fun c_5 => ?_) (fun c_5 => ?_)
      ·
        refine X_iload d_Model_roses_124 rfl ?_
        refine X_istore d_Model_roses_126 (by decide) [1, 2, 3, 4, 5, 6, 7, 0, 8, 9, 10] (L' := [(0, .ref (xg G 59)), (1, .int (nI i)), (2, .int sp), (3, .int sec), (4, .int a), (5, .int what), (6, .int has), (7, .int best), (8, .int least), (9, .int (nI k)), (10, .int (xabs (((hGo S (sp - sp / 10 * 10) 1 (sec).toNatClampNeg (tTry S (mNum (nI k)) (sp / 10) 0 (mRow I i))) 6) - a)))]) rfl ?_
        refine X_iload d_Model_roses_128 rfl ?_
        refine X_if_eq (tgt := 140) d_Model_roses_130 (by decide) (fun c_6 => absurd c_6 c_3) (fun _ => ?_)
        refine X_iload d_Model_roses_133 rfl ?_
        refine X_iload d_Model_roses_135 rfl ?_
        refine X_icmp_ge (tgt := 145) d_Model_roses_137 (by decide) (fun _ => ?_) (fun c_7 => absurd c_7 (fun z => z c_5))
        refine X_iload d_Model_roses_145 rfl ?_
        refine X_istore d_Model_roses_147 (by decide) [1, 2, 3, 4, 5, 6, 7, 8, 0, 9, 10] (L' := [(0, .ref (xg G 59)), (1, .int (nI i)), (2, .int sp), (3, .int sec), (4, .int a), (5, .int what), (6, .int has), (7, .int best), (8, .int least), (9, .int (nI k)), (10, .int (xabs (((hGo S (sp - sp / 10 * 10) 1 (sec).toNatClampNeg (tTry S (mNum (nI k)) (sp / 10) 0 (mRow I i))) 6) - a)))]) rfl ?_
        refine X_iconst (v := 1) d_Model_roses_149 rfl ?_
        refine X_istore d_Model_roses_150 (by decide) [1, 2, 3, 4, 5, 6, 0, 7, 8, 9, 10] (L' := [(0, .ref (xg G 59)), (1, .int (nI i)), (2, .int sp), (3, .int sec), (4, .int a), (5, .int what), (6, .int 1), (7, .int best), (8, .int least), (9, .int (nI k)), (10, .int (xabs (((hGo S (sp - sp / 10 * 10) 1 (sec).toNatClampNeg (tTry S (mNum (nI k)) (sp / 10) 0 (mRow I i))) 6) - a)))]) rfl ?_
        refine X_iinc d_Model_roses_152 rfl (v := (nI k) + 1) rfl (by decide) [1, 2, 3, 4, 5, 6, 7, 8, 9, 0, 10] (L' := [(0, .ref (xg G 59)), (1, .int (nI i)), (2, .int sp), (3, .int sec), (4, .int a), (5, .int what), (6, .int 1), (7, .int best), (8, .int least), (9, .int ((nI k) + 1)), (10, .int (xabs (((hGo S (sp - sp / 10 * 10) 1 (sec).toNatClampNeg (tTry S (mNum (nI k)) (sp / 10) 0 (mRow I i))) 6) - a)))]) rfl ?_
        refine X_goto (tgt := 65) d_Model_roses_155 (by decide) ?_
        have hC : ¬ roC (roT S sp sec (mRow I i)) a k best least = true := by unfold roC roT; (have hq : has = 0 → k = 0 := fun z => by (by_cases y : k = 0; exact y; rw [if_neg y] at hh; rw [hh] at z; exact absurd z (by decide))); (have hq2 : k = 0 → has = 0 := fun z => by rw [hh, if_pos z]); grind
        have key := ih hlt 1 best least (hGo S (sp - sp / 10 * 10) 1 (sec).toNatClampNeg (tTry S (mNum (nI k)) (sp / 10) 0 (mRow I i))) (mEs S (sp - sp / 10 * 10) 1 (tTry S (mNum (nI k)) (sp / 10) 0 (mRow I i)) (-1) (sec).toNatClampNeg) (if_neg (by omega)).symm
        unfold Q_Model_roses at key
        have e2 : (if k + 1 = 81 then (hGo S (sp - sp / 10 * 10) 1 (sec).toNatClampNeg (tTry S (mNum (nI k)) (sp / 10) 0 (mRow I i))) else ((roT S sp sec (mRow I i)) 80)) = ((roT S sp sec (mRow I i)) 80) := mIf (fun z => by rw [show (80 : Nat) = k by omega]; rfl)
        have e3 : (if k + 1 = 81 then ((mEs S (sp - sp / 10 * 10) 1 (tTry S (mNum (nI k)) (sp / 10) 0 (mRow I i)) (-1) (sec).toNatClampNeg) : Int32) else ((roX S sp sec (mRow I i)) 80)) = ((roX S sp sec (mRow I i)) 80) := mIf (fun z => by rw [show (80 : Nat) = k by omega]; rfl)
        rw [e2, e3] at key
        rw [if_neg (show ¬ k = 81 by omega), if_neg (show ¬ k = 81 by omega), hz, sBest_n hC, nI_1]
        refine X_sub [0, 1, 2, 3, 4, 5, 6, 7, 8, 9] (L' := [(0, .ref (xg G 59)), (1, .int (nI i)), (2, .int sp), (3, .int sec), (4, .int a), (5, .int what), (6, .int 1), (7, .int best), (8, .int least), (9, .int (nI (k + 1)))]) rfl ?_
        exact key
      ·
        refine X_iload d_Model_roses_116 rfl ?_
        refine X_callS (v := .int (mNum (nI k))) (rest := []) (c_Model_byNumber l G nn _ (by omega) (nI k)) lk_Model_byNumber ml_Model_231 rfl (Nat.le_of_ble_eq_true rfl) (xRok (d' := d - 1) (by omega) (by decide)) ⟨Nat.le_refl _, Nat.le_refl _⟩ d_Model_roses_118 rfl ?_
        refine X_goto (tgt := 126) d_Model_roses_121 (by decide) ?_
        refine X_istore d_Model_roses_126 (by decide) [1, 2, 3, 4, 5, 6, 7, 0, 8, 9, 10] (L' := [(0, .ref (xg G 59)), (1, .int (nI i)), (2, .int sp), (3, .int sec), (4, .int a), (5, .int what), (6, .int has), (7, .int (mNum (nI k))), (8, .int least), (9, .int (nI k)), (10, .int (xabs (((hGo S (sp - sp / 10 * 10) 1 (sec).toNatClampNeg (tTry S (mNum (nI k)) (sp / 10) 0 (mRow I i))) 6) - a)))]) rfl ?_
        refine X_iload d_Model_roses_128 rfl ?_
        refine X_if_eq (tgt := 140) d_Model_roses_130 (by decide) (fun c_8 => absurd c_8 c_3) (fun _ => ?_)
        refine X_iload d_Model_roses_133 rfl ?_
        refine X_iload d_Model_roses_135 rfl ?_
        refine X_icmp_ge (tgt := 145) d_Model_roses_137 (by decide) (fun c_9 => absurd c_9 c_5) (fun _ => ?_)
        refine X_iload d_Model_roses_140 rfl ?_
        refine X_goto (tgt := 147) d_Model_roses_142 (by decide) ?_
        refine X_istore d_Model_roses_147 (by decide) [1, 2, 3, 4, 5, 6, 7, 8, 0, 9, 10] (L' := [(0, .ref (xg G 59)), (1, .int (nI i)), (2, .int sp), (3, .int sec), (4, .int a), (5, .int what), (6, .int has), (7, .int (mNum (nI k))), (8, .int (xabs (((hGo S (sp - sp / 10 * 10) 1 (sec).toNatClampNeg (tTry S (mNum (nI k)) (sp / 10) 0 (mRow I i))) 6) - a))), (9, .int (nI k)), (10, .int (xabs (((hGo S (sp - sp / 10 * 10) 1 (sec).toNatClampNeg (tTry S (mNum (nI k)) (sp / 10) 0 (mRow I i))) 6) - a)))]) rfl ?_
        refine X_iconst (v := 1) d_Model_roses_149 rfl ?_
        refine X_istore d_Model_roses_150 (by decide) [1, 2, 3, 4, 5, 6, 0, 7, 8, 9, 10] (L' := [(0, .ref (xg G 59)), (1, .int (nI i)), (2, .int sp), (3, .int sec), (4, .int a), (5, .int what), (6, .int 1), (7, .int (mNum (nI k))), (8, .int (xabs (((hGo S (sp - sp / 10 * 10) 1 (sec).toNatClampNeg (tTry S (mNum (nI k)) (sp / 10) 0 (mRow I i))) 6) - a))), (9, .int (nI k)), (10, .int (xabs (((hGo S (sp - sp / 10 * 10) 1 (sec).toNatClampNeg (tTry S (mNum (nI k)) (sp / 10) 0 (mRow I i))) 6) - a)))]) rfl ?_
        refine X_iinc d_Model_roses_152 rfl (v := (nI k) + 1) rfl (by decide) [1, 2, 3, 4, 5, 6, 7, 8, 9, 0, 10] (L' := [(0, .ref (xg G 59)), (1, .int (nI i)), (2, .int sp), (3, .int sec), (4, .int a), (5, .int what), (6, .int 1), (7, .int (mNum (nI k))), (8, .int (xabs (((hGo S (sp - sp / 10 * 10) 1 (sec).toNatClampNeg (tTry S (mNum (nI k)) (sp / 10) 0 (mRow I i))) 6) - a))), (9, .int ((nI k) + 1)), (10, .int (xabs (((hGo S (sp - sp / 10 * 10) 1 (sec).toNatClampNeg (tTry S (mNum (nI k)) (sp / 10) 0 (mRow I i))) 6) - a)))]) rfl ?_
        refine X_goto (tgt := 65) d_Model_roses_155 (by decide) ?_
        have hC : roC (roT S sp sec (mRow I i)) a k best least = true := by unfold roC roT; (have hq : has = 0 → k = 0 := fun z => by (by_cases y : k = 0; exact y; rw [if_neg y] at hh; rw [hh] at z; exact absurd z (by decide))); (have hq2 : k = 0 → has = 0 := fun z => by rw [hh, if_pos z]); grind
        have key := ih hlt 1 (mNum (nI k)) (xabs (((hGo S (sp - sp / 10 * 10) 1 (sec).toNatClampNeg (tTry S (mNum (nI k)) (sp / 10) 0 (mRow I i))) 6) - a)) (hGo S (sp - sp / 10 * 10) 1 (sec).toNatClampNeg (tTry S (mNum (nI k)) (sp / 10) 0 (mRow I i))) (mEs S (sp - sp / 10 * 10) 1 (tTry S (mNum (nI k)) (sp / 10) 0 (mRow I i)) (-1) (sec).toNatClampNeg) (if_neg (by omega)).symm
        unfold Q_Model_roses at key
        have e2 : (if k + 1 = 81 then (hGo S (sp - sp / 10 * 10) 1 (sec).toNatClampNeg (tTry S (mNum (nI k)) (sp / 10) 0 (mRow I i))) else ((roT S sp sec (mRow I i)) 80)) = ((roT S sp sec (mRow I i)) 80) := mIf (fun z => by rw [show (80 : Nat) = k by omega]; rfl)
        have e3 : (if k + 1 = 81 then ((mEs S (sp - sp / 10 * 10) 1 (tTry S (mNum (nI k)) (sp / 10) 0 (mRow I i)) (-1) (sec).toNatClampNeg) : Int32) else ((roX S sp sec (mRow I i)) 80)) = ((roX S sp sec (mRow I i)) 80) := mIf (fun z => by rw [show (80 : Nat) = k by omega]; rfl)
        rw [e2, e3] at key
        rw [if_neg (show ¬ k = 81 by omega), if_neg (show ¬ k = 81 by omega), hz, sBest_y hC, nI_1]
        refine X_sub [0, 1, 2, 3, 4, 5, 6, 7, 8, 9] (L' := [(0, .ref (xg G 59)), (1, .int (nI i)), (2, .int sp), (3, .int sec), (4, .int a), (5, .int what), (6, .int 1), (7, .int (mNum (nI k))), (8, .int (xabs (((hGo S (sp - sp / 10 * 10) 1 (sec).toNatClampNeg (tTry S (mNum (nI k)) (sp / 10) 0 (mRow I i))) 6) - a))), (9, .int (nI (k + 1)))]) rfl ?_
        exact key
def aRosesM (hc : Nat) (L : xSay) (R : Nat → Nat → Int32) (h sp sec a what : Int32) : Int32 := if xin h 0 (nI hc - 1) = true then (if xsp sp = true ∧ xin sec 0 60 = true ∧ xin a (-99999) 99999 = true ∧ xin what 0 1 = true then rUndo what (sBest (roC (roT L sp sec (R h.toNatClampNeg)) a) (fun k => mNum (nI k)) (fun k => xabs (roT L sp sec (R h.toNatClampNeg) k 6 - a)) (81 - 0) 0 0 0) else -100007) else -100005
theorem c_Model_roses (l : Launch) (G : xG) {d : Nat} (nn : Nat) (hd : 9 ≤ d) (I : xI) (hc tc ln : Nat) (SS : Nat → xSay) (hK0 : mOK I hc tc ln SS) (h sp sec a what : Int32) : XM l G d y_Model_roses b_Model_roses 11 (some .int) 0 0 xK0 [.ref (xg G 59), .int h, .int sp, .int sec, .int a, .int what] nn (xm G xYf I) (some (.int (aRosesM hc (SS ln) (mRow I) h sp sec a what))) nn (xm G xYf (if xin h 0 (nI hc - 1) = true ∧ xsp sp = true ∧ xin sec 0 60 = true ∧ xin a (-99999) 99999 = true ∧ xin what 0 1 = true then xup I 59 (sc (I 59) (roT (SS ln) sp sec (mRow I h.toNatClampNeg) 80) (roX (SS ln) sp sec (mRow I h.toNatClampNeg) 80)) else I)) := by
  obtain ⟨⟨h0, h5⟩, ⟨h8, h6⟩, ⟨h9, hl⟩, hTs, hR⟩ := id hK0
  have hK : mK I ln (SS ln) := ⟨hTs ln hl, h9, by omega⟩
  generalize hSS : SS ln = S at hK ⊢
  refine XM.of (by decide) (Nat.le_of_ble_eq_true rfl) (L := [(0, .ref (xg G 59)), (1, .int h), (2, .int sp), (3, .int sec), (4, .int a), (5, .int what)]) rfl ?_
  refine X_aload_n d_Model_roses_0 rfl rfl ?_
  refine X_iload_n d_Model_roses_1 rfl rfl ?_
  refine X_callV (v := .int (xb (xin h 0 (nI hc - 1)))) (rest := []) (c_Model_isHead l G nn (by omega) I hc tc ln SS hK0 h) lk_Model_isHead ml_Model_149 (xm_obj (show xYf 59 = some sModel from rfl)) rfl rfl (Nat.le_of_ble_eq_true rfl) (xRok (d' := d - 1) (by omega) (by decide)) ⟨Nat.le_refl _, Nat.le_refl _⟩ d_Model_roses_2 rfl ?_
  refine X_ifb_ne (tgt := 11) d_Model_roses_5 (by decide) (fun c_1 => ?_) (fun c_1 => ?_)
  ·
    obtain ⟨i, hi, rfl⟩ := cHead h5 c_1
    refine X_iload_n d_Model_roses_11 rfl rfl ?_
    refine X_callS (v := .int (xb (xsp sp))) (rest := []) (k_Model_areDigits l G nn _ (by omega) sp) lk_Model_areDigits ml_Model_215 rfl (Nat.le_of_ble_eq_true rfl) (xRok (d' := d - 1) (by omega) (by decide)) ⟨Nat.le_refl _, Nat.le_refl _⟩ d_Model_roses_12 rfl ?_
    refine X_ifb_eq (tgt := 50) d_Model_roses_15 (by decide) (fun c_2 => ?_) (fun c_2 => ?_)
    ·
      refine X_ldc cs_Model_157 d_Model_roses_50 ?_
      exact X_iret rfl (congrArg (fun q => some (Value.int q)) (by subst hSS; first | (simp [aRosesM, c_1, nI_cl (show i < 2 ^ 31 by omega), c_2, xl_1_0, xl_1_1, xl_2_0, xl_2_1, xl_2_2, xl_3_0, xl_3_1, xl_3_2, xl_3_3]; done) | (exfalso; simp_all; done) | (clear hTs hR hK0 hK; simp_all [aRosesM, nI_cl (show i < 2 ^ 31 by omega)]; done))) (xle_of (congrArg (xm G xYf) (by first | (subst hSS; simp [c_1, nI_cl (show i < 2 ^ 31 by omega), c_2, xl_3_0, xl_3_1, xl_3_2, xl_3_3, xl_2_0, xl_2_1, xl_2_2, xl_1_0, xl_1_1]; done) | (exfalso; simp_all; done)))) d_Model_roses_52
    ·
      refine X_iload_n d_Model_roses_18 rfl rfl ?_
      refine X_iconst (v := 0) d_Model_roses_19 rfl ?_
      refine X_bipush (v := 60) d_Model_roses_20 rfl ?_
      refine X_callS (v := .int (xb (xin sec 0 60))) (rest := []) (c_Model_in l G nn _ (by omega) sec 0 60) lk_Model_in ml_Model_66 rfl (Nat.le_of_ble_eq_true rfl) (xRok (d' := d - 1) (by omega) (by decide)) ⟨Nat.le_refl _, Nat.le_refl _⟩ d_Model_roses_22 rfl ?_
      refine X_ifb_eq (tgt := 50) d_Model_roses_25 (by decide) (fun c_3 => ?_) (fun c_3 => ?_)
      ·
        refine X_ldc cs_Model_157 d_Model_roses_50 ?_
        exact X_iret rfl (congrArg (fun q => some (Value.int q)) (by subst hSS; first | (simp [aRosesM, c_1, nI_cl (show i < 2 ^ 31 by omega), c_2, c_3, xl_1_0, xl_1_1, xl_2_0, xl_2_1, xl_2_2, xl_3_0, xl_3_1, xl_3_2, xl_3_3]; done) | (exfalso; simp_all; done) | (clear hTs hR hK0 hK; simp_all [aRosesM, nI_cl (show i < 2 ^ 31 by omega)]; done))) (xle_of (congrArg (xm G xYf) (by first | (subst hSS; simp [c_1, nI_cl (show i < 2 ^ 31 by omega), c_2, c_3, xl_3_0, xl_3_1, xl_3_2, xl_3_3, xl_2_0, xl_2_1, xl_2_2, xl_1_0, xl_1_1]; done) | (exfalso; simp_all; done)))) d_Model_roses_52
      ·
        refine X_iload d_Model_roses_28 rfl ?_
        refine X_ldc cs_Model_184 d_Model_roses_30 ?_
        refine X_ldc cs_Model_185 d_Model_roses_32 ?_
        refine X_callS (v := .int (xb (xin a (-99999) 99999))) (rest := []) (c_Model_in l G nn _ (by omega) a (-99999) 99999) lk_Model_in ml_Model_66 rfl (Nat.le_of_ble_eq_true rfl) (xRok (d' := d - 1) (by omega) (by decide)) ⟨Nat.le_refl _, Nat.le_refl _⟩ d_Model_roses_34 rfl ?_
        refine X_ifb_eq (tgt := 50) d_Model_roses_37 (by decide) (fun c_4 => ?_) (fun c_4 => ?_)
        ·
          refine X_ldc cs_Model_157 d_Model_roses_50 ?_
          exact X_iret rfl (congrArg (fun q => some (Value.int q)) (by subst hSS; first | (simp [aRosesM, c_1, nI_cl (show i < 2 ^ 31 by omega), c_2, c_3, c_4, xl_1_0, xl_1_1, xl_2_0, xl_2_1, xl_2_2, xl_3_0, xl_3_1, xl_3_2, xl_3_3]; done) | (exfalso; simp_all; done) | (clear hTs hR hK0 hK; simp_all [aRosesM, nI_cl (show i < 2 ^ 31 by omega)]; done))) (xle_of (congrArg (xm G xYf) (by first | (subst hSS; simp [c_1, nI_cl (show i < 2 ^ 31 by omega), c_2, c_3, c_4, xl_3_0, xl_3_1, xl_3_2, xl_3_3, xl_2_0, xl_2_1, xl_2_2, xl_1_0, xl_1_1]; done) | (exfalso; simp_all; done)))) d_Model_roses_52
        ·
          refine X_iload d_Model_roses_40 rfl ?_
          refine X_iconst (v := 0) d_Model_roses_42 rfl ?_
          refine X_iconst (v := 1) d_Model_roses_43 rfl ?_
          refine X_callS (v := .int (xb (xin what 0 1))) (rest := []) (c_Model_in l G nn _ (by omega) what 0 1) lk_Model_in ml_Model_66 rfl (Nat.le_of_ble_eq_true rfl) (xRok (d' := d - 1) (by omega) (by decide)) ⟨Nat.le_refl _, Nat.le_refl _⟩ d_Model_roses_44 rfl ?_
          refine X_ifb_ne (tgt := 53) d_Model_roses_47 (by decide) (fun c_5 => ?_) (fun c_5 => ?_)
          ·
            refine X_iconst (v := 0) d_Model_roses_53 rfl ?_
            refine X_istore d_Model_roses_54 (by decide) [1, 2, 3, 4, 5, 6, 0] (L' := [(0, .ref (xg G 59)), (1, .int (nI i)), (2, .int sp), (3, .int sec), (4, .int a), (5, .int what), (6, .int 0)]) rfl ?_
            refine X_iconst (v := 0) d_Model_roses_56 rfl ?_
            refine X_istore d_Model_roses_57 (by decide) [1, 2, 3, 4, 5, 6, 7, 0] (L' := [(0, .ref (xg G 59)), (1, .int (nI i)), (2, .int sp), (3, .int sec), (4, .int a), (5, .int what), (6, .int 0), (7, .int 0)]) rfl ?_
            refine X_iconst (v := 0) d_Model_roses_59 rfl ?_
            refine X_istore d_Model_roses_60 (by decide) [1, 2, 3, 4, 5, 6, 7, 8, 0] (L' := [(0, .ref (xg G 59)), (1, .int (nI i)), (2, .int sp), (3, .int sec), (4, .int a), (5, .int what), (6, .int 0), (7, .int 0), (8, .int 0)]) rfl ?_
            refine X_iconst (v := 0) d_Model_roses_62 rfl ?_
            refine X_istore d_Model_roses_63 (by decide) [1, 2, 3, 4, 5, 6, 7, 8, 9, 0] (L' := [(0, .ref (xg G 59)), (1, .int (nI i)), (2, .int sp), (3, .int sec), (4, .int a), (5, .int what), (6, .int 0), (7, .int 0), (8, .int 0), (9, .int 0)]) rfl ?_
            have hx := xloop (Q := fun k => ∀ has best least f e, Q_Model_roses l G d nn I i S sp sec a what k has best least f e) (T := 81) (fun k hk ih has best least f e => w_Model_roses l G nn hd I ln i S hK (by omega) sp sec a what (xsp_s c_2) (xin_60 c_3) (hR i (by omega)).1 k hk ih has best least f e) 0 (by decide) 0 0 0 (mCur I) (I 59 33) rfl
            rw [sc_self, if_neg (by decide), if_neg (by decide)] at hx
            rw [aRosesM, if_pos c_1, if_pos ⟨c_1, c_2, c_3, c_4, c_5⟩, if_pos ⟨c_2, c_3, c_4, c_5⟩, nI_cl (show i < 2 ^ 31 by omega)]
            exact hx
          ·
            refine X_ldc cs_Model_157 d_Model_roses_50 ?_
            exact X_iret rfl (congrArg (fun q => some (Value.int q)) (by subst hSS; first | (simp [aRosesM, c_1, nI_cl (show i < 2 ^ 31 by omega), c_2, c_3, c_4, c_5, xl_1_0, xl_1_1, xl_2_0, xl_2_1, xl_2_2, xl_3_0, xl_3_1, xl_3_2, xl_3_3]; done) | (exfalso; simp_all; done) | (clear hTs hR hK0 hK; simp_all [aRosesM, nI_cl (show i < 2 ^ 31 by omega)]; done))) (xle_of (congrArg (xm G xYf) (by first | (subst hSS; simp [c_1, nI_cl (show i < 2 ^ 31 by omega), c_2, c_3, c_4, c_5, xl_3_0, xl_3_1, xl_3_2, xl_3_3, xl_2_0, xl_2_1, xl_2_2, xl_1_0, xl_1_1]; done) | (exfalso; simp_all; done)))) d_Model_roses_52
  ·
    refine X_ldc cs_Model_156 d_Model_roses_8 ?_
    exact X_iret rfl (congrArg (fun q => some (Value.int q)) (by subst hSS; first | (simp [aRosesM, c_1, xl_1_0, xl_1_1, xl_2_0, xl_2_1, xl_2_2, xl_3_0, xl_3_1, xl_3_2, xl_3_3]; done) | (exfalso; simp_all; done) | (clear hTs hR hK0 hK; simp_all [aRosesM]; done))) (xle_of (congrArg (xm G xYf) (by first | (subst hSS; simp [c_1, xl_3_0, xl_3_1, xl_3_2, xl_3_3, xl_2_0, xl_2_1, xl_2_2, xl_1_0, xl_1_1]; done) | (exfalso; simp_all; done)))) d_Model_roses_10
