/-- the best of ones by number: C whether one takes its place, N what one is called, V what counts -/
def sBest (C : Nat → Int32 → Int32 → Bool) (N V : Nat → Int32) : Nat → Nat → Int32 → Int32 → Int32 × Int32
  | 0, _, b, l => (b, l)
  | r + 1, k, b, l => if C k b l = true then sBest C N V r (k + 1) (N k) (V k) else sBest C N V r (k + 1) b l
theorem sBest_y {C : Nat → Int32 → Int32 → Bool} {N V : Nat → Int32} {r k : Nat} {b l : Int32} (h : C k b l = true) : sBest C N V (r + 1) k b l = sBest C N V r (k + 1) (N k) (V k) := by rw [sBest, if_pos h]
theorem sBest_n {C : Nat → Int32 → Int32 → Bool} {N V : Nat → Int32} {r k : Nat} {b l : Int32} (h : ¬ C k b l = true) : sBest C N V (r + 1) k b l = sBest C N V r (k + 1) b l := by rw [sBest, if_neg h]
theorem xabs_neg {k : Nat} (hk : k < 2 ^ 31) : xabs (-(nI k)) = nI k := by
  by_cases h : k = 0
  · subst h; decide
  · rw [xabs, if_pos]
    · grind
    · have h1 : nI 0 < nI k := nI_lt (by omega) hk
      have h2 : nI 0 = 0 := rfl
      rw [h2] at h1
      rw [Int32.lt_iff_toInt_lt] at h1 ⊢
      have h3 : (-(nI k)).toInt = -(nI k).toInt := by
        rw [Int32.toInt_neg]
        have h4 := Int32.toInt_lt (nI k)
        rw [Int.bmod_def]
        simp at h1 h4 ⊢
        omega
      rw [h3]
      simp at h1 ⊢
      omega
def uSp (S : xSay) (sp : Int32) (F : Nat → Int32) (k : Nat) : Nat → Int32 := hSpin S (if 0 < F 2 then -(nI k) else nI k) sp F
def undoC (V : Nat → Int32) : Nat → Int32 → Int32 → Bool := fun k b l => decide (b = -1) || decide (V k < l)
def Q_Model_undo (l : Launch) (G : xG) (d nn : Nat) (I : xI) (i : Nat) (S : xSay) (speed what : Int32) (k : Nat) (best least : Int32) (f : Nat → Int32) (e : Int32) : Prop := XW l G (xR d 0 0) y_Model_undo b_Model_undo 8 (some .int) xK0 (xZ G nn (xm G xYf (xup I 59 (sc (I 59) (if k = 41 then f else (uSp S speed (hStd (mRow I i)) 40)) (if k = 41 then e else -1)))) (some (.int (rUndo what (sBest (undoC (fun k => xabs (uSp S speed (hStd (mRow I i)) k 2))) nI (fun k => xabs (uSp S speed (hStd (mRow I i)) k 2)) (41 - k) k best least)))) 0 0) nn (xm G xYf (xup I 59 (sc (I 59) f e))) 0 0 42 [(0, .ref (xg G 59)), (1, .int (nI i)), (2, .int speed), (3, .int what), (4, .int best), (5, .int least), (6, .int (nI k))] []
theorem w_Model_undo (l : Launch) (G : xG) {d : Nat} (nn : Nat) (hd : 7 ≤ d) (I : xI) (ln i : Nat) (S : xSay) (hK : mK I ln S) (hi : i < 5) (speed what : Int32) (hs : ¬ speed < 0 ∧ speed ≤ 9) (hm : ¬ I 61 i < 0 ∧ I 61 i ≤ 9) (k : Nat) (hk : k ≤ 41) (ih : k < 41 → ∀ best least f e, Q_Model_undo l G d nn I i S speed what (k + 1) best least f e) (best least : Int32) (f : Nat → Int32) (e : Int32) : Q_Model_undo l G d nn I i S speed what k best least f e := by
  unfold Q_Model_undo
  have hr := mRec_std (mRec_row I i)
  refine X_iload d_Model_undo_42 rfl ?_
  refine X_bipush (v := 40) d_Model_undo_44 rfl ?_
  refine X_icmp_gt (tgt := 139) d_Model_undo_46 (by decide) (fun c_1 => ?_) (fun c_1 => ?_)
  ·
    have hz : k = 41 := by have := (nI_ltI (a := 40) (by decide) (by omega)).mp c_1; omega
    subst hz
    refine X_iload_n d_Model_undo_139 rfl rfl ?_
    refine X_if_ne (tgt := 148) d_Model_undo_140 (by decide) (fun c_2 => ?_) (fun c_2 => ?_)
    ·
      refine X_iload d_Model_undo_148 rfl ?_
      exact X_iret rfl (congrArg (fun q => some (Value.int q)) (by rw [rUndo, if_neg c_2]; rfl)) (xle_rf _) d_Model_undo_150
    ·
      refine X_iload d_Model_undo_143 rfl ?_
      refine X_goto (tgt := 150) d_Model_undo_145 (by decide) ?_
      exact X_iret rfl (congrArg (fun q => some (Value.int q)) (by rw [rUndo, if_pos c_2]; rfl)) (xle_rf _) d_Model_undo_150
  ·
    have hlt : k < 41 := Nat.lt_of_not_le (fun z => c_1 (show nI 40 < nI k from nI_lt (by omega) (by omega)))
    have hz : 41 - k = (41 - (k + 1)) + 1 := by omega
    refine X_aload_n d_Model_undo_49 rfl rfl ?_
    refine X_iload_n d_Model_undo_50 rfl rfl ?_
    refine X_callVv (rest := []) (by have q := c_Model_begins l G nn (d := d - 1) (by omega) I i (by omega) f e; exact q) lk_Model_begins ml_Model_212 (xm_obj (show xYf 59 = some sModel from rfl)) rfl rfl (Nat.le_of_ble_eq_true rfl) (xRok (d' := d - 1) (by omega) (by decide)) ⟨Nat.le_refl _, Nat.le_refl _⟩ d_Model_undo_51 rfl ?_
    refine X_aload_n d_Model_undo_54 rfl rfl ?_
    refine X_iload_n d_Model_undo_55 rfl rfl ?_
    refine X_aload_n d_Model_undo_56 rfl rfl ?_
    refine X_getI (v := (hStd (mRow I i)) 2) fg_Model_140 (show xYf 59 = some sModel from rfl) rfl ((congrFun (xup_s _ _ _) _).trans (sc_29 _ _ _)) d_Model_undo_57 ?_
    refine X_if_le (tgt := 69) d_Model_undo_60 (by decide) (fun c_3 => ?_) (fun c_3 => ?_)
    ·
      refine X_iload d_Model_undo_69 rfl ?_
      have hu : (if 0 < (hStd (mRow I i)) 2 then -(nI k) else nI k) = nI k := if_neg (by grind)
      have hx : xabs (nI k) = nI k := xabs_n (by omega)
      refine X_iload_n d_Model_undo_71 rfl rfl ?_
      refine X_callVv (rest := []) (c_Model_turns l G nn (by omega) I ln i S hK (by omega) (hStd (mRow I i)) hr (-1) (nI k) speed hs hm (by rw [hx]; exact nI_pos (by omega)) (by rw [hx]; exact (nI_leI (b := 100) (by omega) (by decide)).mpr (by omega))) lk_Model_turns ml_Model_199 (xm_obj (show xYf 59 = some sModel from rfl)) rfl rfl (Nat.le_of_ble_eq_true rfl) (xRok (d' := d - 1) (by omega) (by decide)) ⟨Nat.le_refl _, Nat.le_refl _⟩ d_Model_undo_72 rfl ?_
      have hw : (hSpin S (nI k) speed (hStd (mRow I i))) = uSp S speed (hStd (mRow I i)) k := by rw [uSp, hu]
      rw [hw]
      refine X_iload d_Model_undo_75 rfl ?_
      refine X_iconst (v := -1) d_Model_undo_77 rfl ?_
      refine X_icmp_eq (tgt := 93) d_Model_undo_78 (by decide) (fun c_4 => ?_) (fun c_4 => ?_)
      ·
        refine X_iconst (v := 1) d_Model_undo_93 rfl ?_
        refine X_goto (tgt := 98) d_Model_undo_94 (by decide) ?_
        refine X_istore d_Model_undo_98 (by decide) [1, 2, 3, 4, 5, 6, 7, 0] (L' := [(0, .ref (xg G 59)), (1, .int (nI i)), (2, .int speed), (3, .int what), (4, .int best), (5, .int least), (6, .int (nI k)), (7, .int 1)]) rfl ?_
        refine X_iload d_Model_undo_100 rfl ?_
        refine X_if_eq (tgt := 110) d_Model_undo_102 (by decide) (fun c_5 => absurd c_5 (by decide)) (fun _ => ?_)
        refine X_iload d_Model_undo_105 rfl ?_
        refine X_goto (tgt := 112) d_Model_undo_107 (by decide) ?_
        refine X_istore d_Model_undo_112 (by decide) [1, 2, 3, 4, 0, 5, 6, 7] (L' := [(0, .ref (xg G 59)), (1, .int (nI i)), (2, .int speed), (3, .int what), (4, .int (nI k)), (5, .int least), (6, .int (nI k)), (7, .int 1)]) rfl ?_
        refine X_iload d_Model_undo_114 rfl ?_
        refine X_if_eq (tgt := 129) d_Model_undo_116 (by decide) (fun c_6 => absurd c_6 (by decide)) (fun _ => ?_)
        refine X_aload_n d_Model_undo_119 rfl rfl ?_
        refine X_getI (v := (uSp S speed (hStd (mRow I i)) k) 2) fg_Model_140 (show xYf 59 = some sModel from rfl) rfl ((congrFun (xup_s _ _ _) _).trans (sc_29 _ _ _)) d_Model_undo_120 ?_
        refine X_callS (v := .int (xabs ((uSp S speed (hStd (mRow I i)) k) 2))) (rest := []) (c_Model_size0 l G nn _ (by omega) ((uSp S speed (hStd (mRow I i)) k) 2)) lk_Model_size0 ml_Model_164 rfl (Nat.le_of_ble_eq_true rfl) (xRok (d' := d - 1) (by omega) (by decide)) ⟨Nat.le_refl _, Nat.le_refl _⟩ d_Model_undo_123 rfl ?_
        refine X_goto (tgt := 131) d_Model_undo_126 (by decide) ?_
        refine X_istore d_Model_undo_131 (by decide) [1, 2, 3, 4, 5, 0, 6, 7] (L' := [(0, .ref (xg G 59)), (1, .int (nI i)), (2, .int speed), (3, .int what), (4, .int (nI k)), (5, .int (xabs ((uSp S speed (hStd (mRow I i)) k) 2))), (6, .int (nI k)), (7, .int 1)]) rfl ?_
        refine X_iinc d_Model_undo_133 rfl (v := (nI k) + 1) rfl (by decide) [1, 2, 3, 4, 5, 6, 0, 7] (L' := [(0, .ref (xg G 59)), (1, .int (nI i)), (2, .int speed), (3, .int what), (4, .int (nI k)), (5, .int (xabs ((uSp S speed (hStd (mRow I i)) k) 2))), (6, .int ((nI k) + 1)), (7, .int 1)]) rfl ?_
        refine X_goto (tgt := 42) d_Model_undo_136 (by decide) ?_
        have key := ih hlt (nI k) (xabs ((uSp S speed (hStd (mRow I i)) k) 2)) (uSp S speed (hStd (mRow I i)) k) (-1)
        unfold Q_Model_undo at key
        have e2 : (if k + 1 = 41 then (uSp S speed (hStd (mRow I i)) k) else (uSp S speed (hStd (mRow I i)) 40)) = (uSp S speed (hStd (mRow I i)) 40) := mIf (fun z => by rw [show (40 : Nat) = k by omega])
        have e3 : (if k + 1 = 41 then ((-1) : Int32) else -1) = -1 := mIf (fun _ => rfl)
        have hC : undoC (fun k => xabs (uSp S speed (hStd (mRow I i)) k 2)) k best least = true := by rw [undoC]; grind
        rw [e2, e3] at key
        rw [if_neg (show ¬ k = 41 by omega), if_neg (show ¬ k = 41 by omega), hz, sBest_y hC, nI_1]
        refine X_sub [0, 1, 2, 3, 4, 5, 6] (L' := [(0, .ref (xg G 59)), (1, .int (nI i)), (2, .int speed), (3, .int what), (4, .int (nI k)), (5, .int (xabs ((uSp S speed (hStd (mRow I i)) k) 2))), (6, .int (nI (k + 1)))]) rfl ?_
        exact key
      ·
        refine X_aload_n d_Model_undo_81 rfl rfl ?_
        refine X_getI (v := (uSp S speed (hStd (mRow I i)) k) 2) fg_Model_140 (show xYf 59 = some sModel from rfl) rfl ((congrFun (xup_s _ _ _) _).trans (sc_29 _ _ _)) d_Model_undo_82 ?_
        refine X_callS (v := .int (xabs ((uSp S speed (hStd (mRow I i)) k) 2))) (rest := []) (c_Model_size0 l G nn _ (by omega) ((uSp S speed (hStd (mRow I i)) k) 2)) lk_Model_size0 ml_Model_164 rfl (Nat.le_of_ble_eq_true rfl) (xRok (d' := d - 1) (by omega) (by decide)) ⟨Nat.le_refl _, Nat.le_refl _⟩ d_Model_undo_85 rfl ?_
        refine X_iload d_Model_undo_88 rfl ?_
        refine X_icmp_ge (tgt := 97) d_Model_undo_90 (by decide) (fun c_7 => ?_) (fun c_7 => ?_)
        ·
          refine X_iconst (v := 0) d_Model_undo_97 rfl ?_
          refine X_istore d_Model_undo_98 (by decide) [1, 2, 3, 4, 5, 6, 7, 0] (L' := [(0, .ref (xg G 59)), (1, .int (nI i)), (2, .int speed), (3, .int what), (4, .int best), (5, .int least), (6, .int (nI k)), (7, .int 0)]) rfl ?_
          refine X_iload d_Model_undo_100 rfl ?_
          refine X_if_eq (tgt := 110) d_Model_undo_102 (by decide) (fun _ => ?_) (fun c_8 => absurd c_8 (by decide))
          refine X_iload d_Model_undo_110 rfl ?_
          refine X_istore d_Model_undo_112 (by decide) [1, 2, 3, 4, 0, 5, 6, 7] (L' := [(0, .ref (xg G 59)), (1, .int (nI i)), (2, .int speed), (3, .int what), (4, .int best), (5, .int least), (6, .int (nI k)), (7, .int 0)]) rfl ?_
          refine X_iload d_Model_undo_114 rfl ?_
          refine X_if_eq (tgt := 129) d_Model_undo_116 (by decide) (fun _ => ?_) (fun c_9 => absurd c_9 (by decide))
          refine X_iload d_Model_undo_129 rfl ?_
          refine X_istore d_Model_undo_131 (by decide) [1, 2, 3, 4, 5, 0, 6, 7] (L' := [(0, .ref (xg G 59)), (1, .int (nI i)), (2, .int speed), (3, .int what), (4, .int best), (5, .int least), (6, .int (nI k)), (7, .int 0)]) rfl ?_
          refine X_iinc d_Model_undo_133 rfl (v := (nI k) + 1) rfl (by decide) [1, 2, 3, 4, 5, 6, 0, 7] (L' := [(0, .ref (xg G 59)), (1, .int (nI i)), (2, .int speed), (3, .int what), (4, .int best), (5, .int least), (6, .int ((nI k) + 1)), (7, .int 0)]) rfl ?_
          refine X_goto (tgt := 42) d_Model_undo_136 (by decide) ?_
          have key := ih hlt best least (uSp S speed (hStd (mRow I i)) k) (-1)
          unfold Q_Model_undo at key
          have e2 : (if k + 1 = 41 then (uSp S speed (hStd (mRow I i)) k) else (uSp S speed (hStd (mRow I i)) 40)) = (uSp S speed (hStd (mRow I i)) 40) := mIf (fun z => by rw [show (40 : Nat) = k by omega])
          have e3 : (if k + 1 = 41 then ((-1) : Int32) else -1) = -1 := mIf (fun _ => rfl)
          have hC : ¬ undoC (fun k => xabs (uSp S speed (hStd (mRow I i)) k 2)) k best least = true := by rw [undoC]; grind
          rw [e2, e3] at key
          rw [if_neg (show ¬ k = 41 by omega), if_neg (show ¬ k = 41 by omega), hz, sBest_n hC, nI_1]
          refine X_sub [0, 1, 2, 3, 4, 5, 6] (L' := [(0, .ref (xg G 59)), (1, .int (nI i)), (2, .int speed), (3, .int what), (4, .int best), (5, .int least), (6, .int (nI (k + 1)))]) rfl ?_
          exact key
        ·
          refine X_iconst (v := 1) d_Model_undo_93 rfl ?_
          refine X_goto (tgt := 98) d_Model_undo_94 (by decide) ?_
          refine X_istore d_Model_undo_98 (by decide) [1, 2, 3, 4, 5, 6, 7, 0] (L' := [(0, .ref (xg G 59)), (1, .int (nI i)), (2, .int speed), (3, .int what), (4, .int best), (5, .int least), (6, .int (nI k)), (7, .int 1)]) rfl ?_
          refine X_iload d_Model_undo_100 rfl ?_
          refine X_if_eq (tgt := 110) d_Model_undo_102 (by decide) (fun c_10 => absurd c_10 (by decide)) (fun _ => ?_)
          refine X_iload d_Model_undo_105 rfl ?_
          refine X_goto (tgt := 112) d_Model_undo_107 (by decide) ?_
          refine X_istore d_Model_undo_112 (by decide) [1, 2, 3, 4, 0, 5, 6, 7] (L' := [(0, .ref (xg G 59)), (1, .int (nI i)), (2, .int speed), (3, .int what), (4, .int (nI k)), (5, .int least), (6, .int (nI k)), (7, .int 1)]) rfl ?_
          refine X_iload d_Model_undo_114 rfl ?_
          refine X_if_eq (tgt := 129) d_Model_undo_116 (by decide) (fun c_11 => absurd c_11 (by decide)) (fun _ => ?_)
          refine X_aload_n d_Model_undo_119 rfl rfl ?_
          refine X_getI (v := (uSp S speed (hStd (mRow I i)) k) 2) fg_Model_140 (show xYf 59 = some sModel from rfl) rfl ((congrFun (xup_s _ _ _) _).trans (sc_29 _ _ _)) d_Model_undo_120 ?_
          refine X_callS (v := .int (xabs ((uSp S speed (hStd (mRow I i)) k) 2))) (rest := []) (c_Model_size0 l G nn _ (by omega) ((uSp S speed (hStd (mRow I i)) k) 2)) lk_Model_size0 ml_Model_164 rfl (Nat.le_of_ble_eq_true rfl) (xRok (d' := d - 1) (by omega) (by decide)) ⟨Nat.le_refl _, Nat.le_refl _⟩ d_Model_undo_123 rfl ?_
          refine X_goto (tgt := 131) d_Model_undo_126 (by decide) ?_
          refine X_istore d_Model_undo_131 (by decide) [1, 2, 3, 4, 5, 0, 6, 7] (L' := [(0, .ref (xg G 59)), (1, .int (nI i)), (2, .int speed), (3, .int what), (4, .int (nI k)), (5, .int (xabs ((uSp S speed (hStd (mRow I i)) k) 2))), (6, .int (nI k)), (7, .int 1)]) rfl ?_
          refine X_iinc d_Model_undo_133 rfl (v := (nI k) + 1) rfl (by decide) [1, 2, 3, 4, 5, 6, 0, 7] (L' := [(0, .ref (xg G 59)), (1, .int (nI i)), (2, .int speed), (3, .int what), (4, .int (nI k)), (5, .int (xabs ((uSp S speed (hStd (mRow I i)) k) 2))), (6, .int ((nI k) + 1)), (7, .int 1)]) rfl ?_
          refine X_goto (tgt := 42) d_Model_undo_136 (by decide) ?_
          have key := ih hlt (nI k) (xabs ((uSp S speed (hStd (mRow I i)) k) 2)) (uSp S speed (hStd (mRow I i)) k) (-1)
          unfold Q_Model_undo at key
          have e2 : (if k + 1 = 41 then (uSp S speed (hStd (mRow I i)) k) else (uSp S speed (hStd (mRow I i)) 40)) = (uSp S speed (hStd (mRow I i)) 40) := mIf (fun z => by rw [show (40 : Nat) = k by omega])
          have e3 : (if k + 1 = 41 then ((-1) : Int32) else -1) = -1 := mIf (fun _ => rfl)
          have hC : undoC (fun k => xabs (uSp S speed (hStd (mRow I i)) k 2)) k best least = true := by rw [undoC]; grind
          rw [e2, e3] at key
          rw [if_neg (show ¬ k = 41 by omega), if_neg (show ¬ k = 41 by omega), hz, sBest_y hC, nI_1]
          refine X_sub [0, 1, 2, 3, 4, 5, 6] (L' := [(0, .ref (xg G 59)), (1, .int (nI i)), (2, .int speed), (3, .int what), (4, .int (nI k)), (5, .int (xabs ((uSp S speed (hStd (mRow I i)) k) 2))), (6, .int (nI (k + 1)))]) rfl ?_
          exact key
    ·
      refine X_iload d_Model_undo_63 rfl ?_
      refine X_ineg d_Model_undo_65 ?_
      refine X_goto (tgt := 71) d_Model_undo_66 (by decide) ?_
      have hu : (if 0 < (hStd (mRow I i)) 2 then -(nI k) else nI k) = -(nI k) := if_pos (by grind)
      have hx : xabs (-(nI k)) = nI k := xabs_neg (by omega)
      refine X_iload_n d_Model_undo_71 rfl rfl ?_
      refine X_callVv (rest := []) (c_Model_turns l G nn (by omega) I ln i S hK (by omega) (hStd (mRow I i)) hr (-1) (-(nI k)) speed hs hm (by rw [hx]; exact nI_pos (by omega)) (by rw [hx]; exact (nI_leI (b := 100) (by omega) (by decide)).mpr (by omega))) lk_Model_turns ml_Model_199 (xm_obj (show xYf 59 = some sModel from rfl)) rfl rfl (Nat.le_of_ble_eq_true rfl) (xRok (d' := d - 1) (by omega) (by decide)) ⟨Nat.le_refl _, Nat.le_refl _⟩ d_Model_undo_72 rfl ?_
      have hw : (hSpin S (-(nI k)) speed (hStd (mRow I i))) = uSp S speed (hStd (mRow I i)) k := by rw [uSp, hu]
      rw [hw]
      refine X_iload d_Model_undo_75 rfl ?_
      refine X_iconst (v := -1) d_Model_undo_77 rfl ?_
      refine X_icmp_eq (tgt := 93) d_Model_undo_78 (by decide) (fun c_12 => ?_) (fun c_12 => ?_)
      ·
        refine X_iconst (v := 1) d_Model_undo_93 rfl ?_
        refine X_goto (tgt := 98) d_Model_undo_94 (by decide) ?_
        refine X_istore d_Model_undo_98 (by decide) [1, 2, 3, 4, 5, 6, 7, 0] (L' := [(0, .ref (xg G 59)), (1, .int (nI i)), (2, .int speed), (3, .int what), (4, .int best), (5, .int least), (6, .int (nI k)), (7, .int 1)]) rfl ?_
        refine X_iload d_Model_undo_100 rfl ?_
        refine X_if_eq (tgt := 110) d_Model_undo_102 (by decide) (fun c_13 => absurd c_13 (by decide)) (fun _ => ?_)
        refine X_iload d_Model_undo_105 rfl ?_
        refine X_goto (tgt := 112) d_Model_undo_107 (by decide) ?_
        refine X_istore d_Model_undo_112 (by decide) [1, 2, 3, 4, 0, 5, 6, 7] (L' := [(0, .ref (xg G 59)), (1, .int (nI i)), (2, .int speed), (3, .int what), (4, .int (nI k)), (5, .int least), (6, .int (nI k)), (7, .int 1)]) rfl ?_
        refine X_iload d_Model_undo_114 rfl ?_
        refine X_if_eq (tgt := 129) d_Model_undo_116 (by decide) (fun c_14 => absurd c_14 (by decide)) (fun _ => ?_)
        refine X_aload_n d_Model_undo_119 rfl rfl ?_
        refine X_getI (v := (uSp S speed (hStd (mRow I i)) k) 2) fg_Model_140 (show xYf 59 = some sModel from rfl) rfl ((congrFun (xup_s _ _ _) _).trans (sc_29 _ _ _)) d_Model_undo_120 ?_
        refine X_callS (v := .int (xabs ((uSp S speed (hStd (mRow I i)) k) 2))) (rest := []) (c_Model_size0 l G nn _ (by omega) ((uSp S speed (hStd (mRow I i)) k) 2)) lk_Model_size0 ml_Model_164 rfl (Nat.le_of_ble_eq_true rfl) (xRok (d' := d - 1) (by omega) (by decide)) ⟨Nat.le_refl _, Nat.le_refl _⟩ d_Model_undo_123 rfl ?_
        refine X_goto (tgt := 131) d_Model_undo_126 (by decide) ?_
        refine X_istore d_Model_undo_131 (by decide) [1, 2, 3, 4, 5, 0, 6, 7] (L' := [(0, .ref (xg G 59)), (1, .int (nI i)), (2, .int speed), (3, .int what), (4, .int (nI k)), (5, .int (xabs ((uSp S speed (hStd (mRow I i)) k) 2))), (6, .int (nI k)), (7, .int 1)]) rfl ?_
        refine X_iinc d_Model_undo_133 rfl (v := (nI k) + 1) rfl (by decide) [1, 2, 3, 4, 5, 6, 0, 7] (L' := [(0, .ref (xg G 59)), (1, .int (nI i)), (2, .int speed), (3, .int what), (4, .int (nI k)), (5, .int (xabs ((uSp S speed (hStd (mRow I i)) k) 2))), (6, .int ((nI k) + 1)), (7, .int 1)]) rfl ?_
        refine X_goto (tgt := 42) d_Model_undo_136 (by decide) ?_
        have key := ih hlt (nI k) (xabs ((uSp S speed (hStd (mRow I i)) k) 2)) (uSp S speed (hStd (mRow I i)) k) (-1)
        unfold Q_Model_undo at key
        have e2 : (if k + 1 = 41 then (uSp S speed (hStd (mRow I i)) k) else (uSp S speed (hStd (mRow I i)) 40)) = (uSp S speed (hStd (mRow I i)) 40) := mIf (fun z => by rw [show (40 : Nat) = k by omega])
        have e3 : (if k + 1 = 41 then ((-1) : Int32) else -1) = -1 := mIf (fun _ => rfl)
        have hC : undoC (fun k => xabs (uSp S speed (hStd (mRow I i)) k 2)) k best least = true := by rw [undoC]; grind
        rw [e2, e3] at key
        rw [if_neg (show ¬ k = 41 by omega), if_neg (show ¬ k = 41 by omega), hz, sBest_y hC, nI_1]
        refine X_sub [0, 1, 2, 3, 4, 5, 6] (L' := [(0, .ref (xg G 59)), (1, .int (nI i)), (2, .int speed), (3, .int what), (4, .int (nI k)), (5, .int (xabs ((uSp S speed (hStd (mRow I i)) k) 2))), (6, .int (nI (k + 1)))]) rfl ?_
        exact key
      ·
        refine X_aload_n d_Model_undo_81 rfl rfl ?_
        refine X_getI (v := (uSp S speed (hStd (mRow I i)) k) 2) fg_Model_140 (show xYf 59 = some sModel from rfl) rfl ((congrFun (xup_s _ _ _) _).trans (sc_29 _ _ _)) d_Model_undo_82 ?_
        refine X_callS (v := .int (xabs ((uSp S speed (hStd (mRow I i)) k) 2))) (rest := []) (c_Model_size0 l G nn _ (by omega) ((uSp S speed (hStd (mRow I i)) k) 2)) lk_Model_size0 ml_Model_164 rfl (Nat.le_of_ble_eq_true rfl) (xRok (d' := d - 1) (by omega) (by decide)) ⟨Nat.le_refl _, Nat.le_refl _⟩ d_Model_undo_85 rfl ?_
        refine X_iload d_Model_undo_88 rfl ?_
        refine X_icmp_ge (tgt := 97) d_Model_undo_90 (by decide) (fun c_15 => ?_) (fun c_15 => ?_)
        ·
          refine X_iconst (v := 0) d_Model_undo_97 rfl ?_
          refine X_istore d_Model_undo_98 (by decide) [1, 2, 3, 4, 5, 6, 7, 0] (L' := [(0, .ref (xg G 59)), (1, .int (nI i)), (2, .int speed), (3, .int what), (4, .int best), (5, .int least), (6, .int (nI k)), (7, .int 0)]) rfl ?_
          refine X_iload d_Model_undo_100 rfl ?_
          refine X_if_eq (tgt := 110) d_Model_undo_102 (by decide) (fun _ => ?_) (fun c_16 => absurd c_16 (by decide))
          refine X_iload d_Model_undo_110 rfl ?_
          refine X_istore d_Model_undo_112 (by decide) [1, 2, 3, 4, 0, 5, 6, 7] (L' := [(0, .ref (xg G 59)), (1, .int (nI i)), (2, .int speed), (3, .int what), (4, .int best), (5, .int least), (6, .int (nI k)), (7, .int 0)]) rfl ?_
          refine X_iload d_Model_undo_114 rfl ?_
          refine X_if_eq (tgt := 129) d_Model_undo_116 (by decide) (fun _ => ?_) (fun c_17 => absurd c_17 (by decide))
          refine X_iload d_Model_undo_129 rfl ?_
          refine X_istore d_Model_undo_131 (by decide) [1, 2, 3, 4, 5, 0, 6, 7] (L' := [(0, .ref (xg G 59)), (1, .int (nI i)), (2, .int speed), (3, .int what), (4, .int best), (5, .int least), (6, .int (nI k)), (7, .int 0)]) rfl ?_
          refine X_iinc d_Model_undo_133 rfl (v := (nI k) + 1) rfl (by decide) [1, 2, 3, 4, 5, 6, 0, 7] (L' := [(0, .ref (xg G 59)), (1, .int (nI i)), (2, .int speed), (3, .int what), (4, .int best), (5, .int least), (6, .int ((nI k) + 1)), (7, .int 0)]) rfl ?_
          refine X_goto (tgt := 42) d_Model_undo_136 (by decide) ?_
          have key := ih hlt best least (uSp S speed (hStd (mRow I i)) k) (-1)
          unfold Q_Model_undo at key
          have e2 : (if k + 1 = 41 then (uSp S speed (hStd (mRow I i)) k) else (uSp S speed (hStd (mRow I i)) 40)) = (uSp S speed (hStd (mRow I i)) 40) := mIf (fun z => by rw [show (40 : Nat) = k by omega])
          have e3 : (if k + 1 = 41 then ((-1) : Int32) else -1) = -1 := mIf (fun _ => rfl)
          have hC : ¬ undoC (fun k => xabs (uSp S speed (hStd (mRow I i)) k 2)) k best least = true := by rw [undoC]; grind
          rw [e2, e3] at key
          rw [if_neg (show ¬ k = 41 by omega), if_neg (show ¬ k = 41 by omega), hz, sBest_n hC, nI_1]
          refine X_sub [0, 1, 2, 3, 4, 5, 6] (L' := [(0, .ref (xg G 59)), (1, .int (nI i)), (2, .int speed), (3, .int what), (4, .int best), (5, .int least), (6, .int (nI (k + 1)))]) rfl ?_
          exact key
        ·
          refine X_iconst (v := 1) d_Model_undo_93 rfl ?_
          refine X_goto (tgt := 98) d_Model_undo_94 (by decide) ?_
          refine X_istore d_Model_undo_98 (by decide) [1, 2, 3, 4, 5, 6, 7, 0] (L' := [(0, .ref (xg G 59)), (1, .int (nI i)), (2, .int speed), (3, .int what), (4, .int best), (5, .int least), (6, .int (nI k)), (7, .int 1)]) rfl ?_
          refine X_iload d_Model_undo_100 rfl ?_
          refine X_if_eq (tgt := 110) d_Model_undo_102 (by decide) (fun c_18 => absurd c_18 (by decide)) (fun _ => ?_)
          refine X_iload d_Model_undo_105 rfl ?_
          refine X_goto (tgt := 112) d_Model_undo_107 (by decide) ?_
          refine X_istore d_Model_undo_112 (by decide) [1, 2, 3, 4, 0, 5, 6, 7] (L' := [(0, .ref (xg G 59)), (1, .int (nI i)), (2, .int speed), (3, .int what), (4, .int (nI k)), (5, .int least), (6, .int (nI k)), (7, .int 1)]) rfl ?_
          refine X_iload d_Model_undo_114 rfl ?_
          refine X_if_eq (tgt := 129) d_Model_undo_116 (by decide) (fun c_19 => absurd c_19 (by decide)) (fun _ => ?_)
          refine X_aload_n d_Model_undo_119 rfl rfl ?_
          refine X_getI (v := (uSp S speed (hStd (mRow I i)) k) 2) fg_Model_140 (show xYf 59 = some sModel from rfl) rfl ((congrFun (xup_s _ _ _) _).trans (sc_29 _ _ _)) d_Model_undo_120 ?_
          refine X_callS (v := .int (xabs ((uSp S speed (hStd (mRow I i)) k) 2))) (rest := []) (c_Model_size0 l G nn _ (by omega) ((uSp S speed (hStd (mRow I i)) k) 2)) lk_Model_size0 ml_Model_164 rfl (Nat.le_of_ble_eq_true rfl) (xRok (d' := d - 1) (by omega) (by decide)) ⟨Nat.le_refl _, Nat.le_refl _⟩ d_Model_undo_123 rfl ?_
          refine X_goto (tgt := 131) d_Model_undo_126 (by decide) ?_
          refine X_istore d_Model_undo_131 (by decide) [1, 2, 3, 4, 5, 0, 6, 7] (L' := [(0, .ref (xg G 59)), (1, .int (nI i)), (2, .int speed), (3, .int what), (4, .int (nI k)), (5, .int (xabs ((uSp S speed (hStd (mRow I i)) k) 2))), (6, .int (nI k)), (7, .int 1)]) rfl ?_
          refine X_iinc d_Model_undo_133 rfl (v := (nI k) + 1) rfl (by decide) [1, 2, 3, 4, 5, 6, 0, 7] (L' := [(0, .ref (xg G 59)), (1, .int (nI i)), (2, .int speed), (3, .int what), (4, .int (nI k)), (5, .int (xabs ((uSp S speed (hStd (mRow I i)) k) 2))), (6, .int ((nI k) + 1)), (7, .int 1)]) rfl ?_
          refine X_goto (tgt := 42) d_Model_undo_136 (by decide) ?_
          have key := ih hlt (nI k) (xabs ((uSp S speed (hStd (mRow I i)) k) 2)) (uSp S speed (hStd (mRow I i)) k) (-1)
          unfold Q_Model_undo at key
          have e2 : (if k + 1 = 41 then (uSp S speed (hStd (mRow I i)) k) else (uSp S speed (hStd (mRow I i)) 40)) = (uSp S speed (hStd (mRow I i)) 40) := mIf (fun z => by rw [show (40 : Nat) = k by omega])
          have e3 : (if k + 1 = 41 then ((-1) : Int32) else -1) = -1 := mIf (fun _ => rfl)
          have hC : undoC (fun k => xabs (uSp S speed (hStd (mRow I i)) k 2)) k best least = true := by rw [undoC]; grind
          rw [e2, e3] at key
          rw [if_neg (show ¬ k = 41 by omega), if_neg (show ¬ k = 41 by omega), hz, sBest_y hC, nI_1]
          refine X_sub [0, 1, 2, 3, 4, 5, 6] (L' := [(0, .ref (xg G 59)), (1, .int (nI i)), (2, .int speed), (3, .int what), (4, .int (nI k)), (5, .int (xabs ((uSp S speed (hStd (mRow I i)) k) 2))), (6, .int (nI (k + 1)))]) rfl ?_
          exact key
def aUndoM (hc : Nat) (L : xSay) (R : Nat → Nat → Int32) (h sp what : Int32) : Int32 := if xin h 0 (nI hc - 1) = true then (if xin sp 1 9 = true ∧ xin what 0 1 = true then rUndo what (sBest (undoC (fun k => xabs (uSp L sp (hStd (R h.toNatClampNeg)) k 2))) nI (fun k => xabs (uSp L sp (hStd (R h.toNatClampNeg)) k 2)) (41 - 0) 0 (-1) 0) else -100007) else -100005
theorem c_Model_undo (l : Launch) (G : xG) {d : Nat} (nn : Nat) (hd : 8 ≤ d) (I : xI) (hc tc ln : Nat) (SS : Nat → xSay) (hK0 : mOK I hc tc ln SS) (h speed what : Int32) : XM l G d y_Model_undo b_Model_undo 8 (some .int) 0 0 xK0 [.ref (xg G 59), .int h, .int speed, .int what] nn (xm G xYf I) (some (.int (aUndoM hc (SS ln) (mRow I) h speed what))) nn (xm G xYf (if xin h 0 (nI hc - 1) = true ∧ xin speed 1 9 = true ∧ xin what 0 1 = true then xup I 59 (sc (I 59) (uSp (SS ln) speed (hStd (mRow I h.toNatClampNeg)) 40) (-1)) else I)) := by
  obtain ⟨⟨h0, h5⟩, ⟨h8, h6⟩, ⟨h9, hl⟩, hTs, hR⟩ := id hK0
  have hK : mK I ln (SS ln) := ⟨hTs ln hl, h9, by omega⟩
  generalize hSS : SS ln = S at hK ⊢
  refine XM.of (by decide) (Nat.le_of_ble_eq_true rfl) (L := [(0, .ref (xg G 59)), (1, .int h), (2, .int speed), (3, .int what)]) rfl ?_
  refine X_aload_n d_Model_undo_0 rfl rfl ?_
  refine X_iload_n d_Model_undo_1 rfl rfl ?_
  refine X_callV (v := .int (xb (xin h 0 (nI hc - 1)))) (rest := []) (c_Model_isHead l G nn (by omega) I hc tc ln SS hK0 h) lk_Model_isHead ml_Model_149 (xm_obj (show xYf 59 = some sModel from rfl)) rfl rfl (Nat.le_of_ble_eq_true rfl) (xRok (d' := d - 1) (by omega) (by decide)) ⟨Nat.le_refl _, Nat.le_refl _⟩ d_Model_undo_2 rfl ?_
  refine X_ifb_ne (tgt := 11) d_Model_undo_5 (by decide) (fun c_1 => ?_) (fun c_1 => ?_)
  ·
    obtain ⟨i, hi, rfl⟩ := cHead h5 c_1
    refine X_iload_n d_Model_undo_11 rfl rfl ?_
    refine X_iconst (v := 1) d_Model_undo_12 rfl ?_
    refine X_bipush (v := 9) d_Model_undo_13 rfl ?_
    refine X_callS (v := .int (xb (xin speed 1 9))) (rest := []) (c_Model_in l G nn _ (by omega) speed 1 9) lk_Model_in ml_Model_66 rfl (Nat.le_of_ble_eq_true rfl) (xRok (d' := d - 1) (by omega) (by decide)) ⟨Nat.le_refl _, Nat.le_refl _⟩ d_Model_undo_15 rfl ?_
    refine X_ifb_eq (tgt := 30) d_Model_undo_18 (by decide) (fun c_2 => ?_) (fun c_2 => ?_)
    ·
      refine X_ldc cs_Model_157 d_Model_undo_30 ?_
      exact X_iret rfl (congrArg (fun q => some (Value.int q)) (by subst hSS; first | (simp [aUndoM, c_1, nI_cl (show i < 2 ^ 31 by omega), c_2, xl_1_0, xl_1_1, xl_2_0, xl_2_1, xl_2_2, xl_3_0, xl_3_1, xl_3_2, xl_3_3]; done) | (exfalso; simp_all; done) | (clear hTs hR hK0 hK; simp_all [aUndoM, nI_cl (show i < 2 ^ 31 by omega)]; done))) (xle_of (congrArg (xm G xYf) (by first | (subst hSS; simp [c_1, nI_cl (show i < 2 ^ 31 by omega), c_2, xl_3_0, xl_3_1, xl_3_2, xl_3_3, xl_2_0, xl_2_1, xl_2_2, xl_1_0, xl_1_1]; done) | (exfalso; simp_all; done)))) d_Model_undo_32
    ·
      refine X_iload_n d_Model_undo_21 rfl rfl ?_
      refine X_iconst (v := 0) d_Model_undo_22 rfl ?_
      refine X_iconst (v := 1) d_Model_undo_23 rfl ?_
      refine X_callS (v := .int (xb (xin what 0 1))) (rest := []) (c_Model_in l G nn _ (by omega) what 0 1) lk_Model_in ml_Model_66 rfl (Nat.le_of_ble_eq_true rfl) (xRok (d' := d - 1) (by omega) (by decide)) ⟨Nat.le_refl _, Nat.le_refl _⟩ d_Model_undo_24 rfl ?_
      refine X_ifb_ne (tgt := 33) d_Model_undo_27 (by decide) (fun c_3 => ?_) (fun c_3 => ?_)
      ·
        refine X_iconst (v := -1) d_Model_undo_33 rfl ?_
        refine X_istore d_Model_undo_34 (by decide) [1, 2, 3, 4, 0] (L' := [(0, .ref (xg G 59)), (1, .int (nI i)), (2, .int speed), (3, .int what), (4, .int (-1))]) rfl ?_
        refine X_iconst (v := 0) d_Model_undo_36 rfl ?_
        refine X_istore d_Model_undo_37 (by decide) [1, 2, 3, 4, 5, 0] (L' := [(0, .ref (xg G 59)), (1, .int (nI i)), (2, .int speed), (3, .int what), (4, .int (-1)), (5, .int 0)]) rfl ?_
        refine X_iconst (v := 0) d_Model_undo_39 rfl ?_
        refine X_istore d_Model_undo_40 (by decide) [1, 2, 3, 4, 5, 6, 0] (L' := [(0, .ref (xg G 59)), (1, .int (nI i)), (2, .int speed), (3, .int what), (4, .int (-1)), (5, .int 0), (6, .int 0)]) rfl ?_
        have hx := xloop (Q := fun k => ∀ best least f e, Q_Model_undo l G d nn I i S speed what k best least f e) (T := 41) (fun k hk ih best least f e => w_Model_undo l G nn (by omega) I ln i S hK (by omega) speed what (xin_sp c_2) (hR i (by omega)).1 k hk ih best least f e) 0 (by decide) (-1) 0 (mCur I) (I 59 33)
        unfold Q_Model_undo at hx
        rw [sc_self, if_neg (by decide), if_neg (by decide)] at hx
        have e1 : aUndoM hc S (mRow I) (nI i) speed what = rUndo what (sBest (undoC (fun k => xabs (uSp S speed (hStd (mRow I i)) k 2))) nI (fun k => xabs (uSp S speed (hStd (mRow I i)) k 2)) (41 - 0) 0 (-1) 0) := by rw [aUndoM, if_pos c_1, if_pos ⟨c_2, c_3⟩, nI_cl (show i < 2 ^ 31 by omega)]
        rw [e1, if_pos ⟨c_1, c_2, c_3⟩, nI_cl (show i < 2 ^ 31 by omega)]
        exact hx
      ·
        refine X_ldc cs_Model_157 d_Model_undo_30 ?_
        exact X_iret rfl (congrArg (fun q => some (Value.int q)) (by subst hSS; first | (simp [aUndoM, c_1, nI_cl (show i < 2 ^ 31 by omega), c_2, c_3, xl_1_0, xl_1_1, xl_2_0, xl_2_1, xl_2_2, xl_3_0, xl_3_1, xl_3_2, xl_3_3]; done) | (exfalso; simp_all; done) | (clear hTs hR hK0 hK; simp_all [aUndoM, nI_cl (show i < 2 ^ 31 by omega)]; done))) (xle_of (congrArg (xm G xYf) (by first | (subst hSS; simp [c_1, nI_cl (show i < 2 ^ 31 by omega), c_2, c_3, xl_3_0, xl_3_1, xl_3_2, xl_3_3, xl_2_0, xl_2_1, xl_2_2, xl_1_0, xl_1_1]; done) | (exfalso; simp_all; done)))) d_Model_undo_32
  ·
    refine X_ldc cs_Model_156 d_Model_undo_8 ?_
    exact X_iret rfl (congrArg (fun q => some (Value.int q)) (by subst hSS; first | (simp [aUndoM, c_1, xl_1_0, xl_1_1, xl_2_0, xl_2_1, xl_2_2, xl_3_0, xl_3_1, xl_3_2, xl_3_3]; done) | (exfalso; simp_all; done) | (clear hTs hR hK0 hK; simp_all [aUndoM]; done))) (xle_of (congrArg (xm G xYf) (by first | (subst hSS; simp [c_1, xl_3_0, xl_3_1, xl_3_2, xl_3_3, xl_2_0, xl_2_1, xl_2_2, xl_1_0, xl_1_1]; done) | (exfalso; simp_all; done)))) d_Model_undo_10
