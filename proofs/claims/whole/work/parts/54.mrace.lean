def rcS (T : Nat → Nat → Int32) (wide sec what : Int32) : Nat → Nat → Int32
  | 0, _ => -1
  | r + 1, k => if T k 7 = 0 ∧ xabs (T k 6) ≤ wide then (if what = 0 then nI k else nI k + sec) else rcS T wide sec what r (k + 1)
def rcF (T : Nat → Nat → Int32) (wide : Int32) : Nat → Nat → (Nat → Int32) → Nat → Int32
  | 0, _, f => f
  | r + 1, k, _ => if T k 7 = 0 ∧ xabs (T k 6) ≤ wide then T k else rcF T wide r (k + 1) (T k)
def rcE (T : Nat → Nat → Int32) (E : Nat → Int32) (wide : Int32) : Nat → Nat → Int32 → Int32
  | 0, _, e => e
  | r + 1, k, _ => if T k 7 = 0 ∧ xabs (T k 6) ≤ wide then E k else rcE T E wide r (k + 1) (E k)
def rcQ (sp fw : Int32) : Int32 := (fw / 1000 + (sp - sp / 10 * 10) - 1) / (sp - sp / 10 * 10)
def rcT (S : xSay) (n sp fw : Int32) (F : Nat → Int32) (k : Nat) : Nat → Int32 := hGo S (sp - sp / 10 * 10) 1 (rcQ sp fw).toNatClampNeg (tTry S n (sp / 10) (nI k) F)
def rcX (S : xSay) (n sp fw : Int32) (F : Nat → Int32) (k : Nat) : Int32 := mEs S (sp - sp / 10 * 10) 1 (tTry S n (sp / 10) (nI k) F) (-1) (rcQ sp fw).toNatClampNeg
def rcN (sec : Int32) : Nat := if 60 < sec then 0 else 61
/-- one's race as the model has it -/
def mRc (S : xSay) (n sp fw what : Int32) (F : Nat → Int32) : Int32 := rcS (rcT S n sp fw F) (fw - fw / 1000 * 1000) (rcQ sp fw) what (rcN (rcQ sp fw)) 0
def mRcF (S : xSay) (n sp fw : Int32) (F f : Nat → Int32) : Nat → Int32 := rcF (rcT S n sp fw F) (fw - fw / 1000 * 1000) (rcN (rcQ sp fw)) 0 f
def mRcE (S : xSay) (n sp fw : Int32) (F : Nat → Int32) (e : Int32) : Int32 := rcE (rcT S n sp fw F) (rcX S n sp fw F) (fw - fw / 1000 * 1000) (rcN (rcQ sp fw)) 0 e
def rcOK (n sp fw : Int32) : Prop := (¬ sp / 10 < 0 ∧ sp / 10 ≤ 9) ∧ ¬ sp - sp / 10 * 10 = 0 ∧ (¬ xabs n < 0 ∧ xabs n ≤ 100) ∧ ¬ rcQ sp fw < 0
theorem xsp_p {v : Int32} (h : xsp v = true) : ∃ a b, v = nI a ∧ a < 100 ∧ b = a % 10 ∧ 0 < b ∧ v - v / 10 * 10 = nI b ∧ v / 10 = nI (a / 10) ∧ 0 < a / 10 := by
  have hx := h
  rw [← mDig_eq, mDig, Bool.and_eq_true, decide_eq_true_eq, xin_iff] at hx
  obtain ⟨k, hk, rfl⟩ := nI_of (x := v) (Int32.not_lt.mpr (by have := hx.1.1; grind))
  have hk2 : k ≤ 99 := (nI_leI hk (by decide)).mp hx.1.2
  have hk3 : 11 ≤ k := (nI_leI (b := k) (a := 11) (by decide) hk).mp hx.1.1
  have e1 : nI k / 10 = nI (k / 10) := q_div hk 10 (by decide) (by decide)
  have e2 : nI k - nI k / 10 * 10 = nI (k % 10) := q_rem hk 10 (by decide) (by decide)
  have h0 : 0 < k % 10 := by
    have h2 := hx.2
    rw [e2] at h2
    exact (nI_ltI (a := 0) (by decide) (by omega)).mp h2
  exact ⟨k, k % 10, rfl, by omega, rfl, h0, e2, e1, by omega⟩
theorem xrace_ok {n sp fw what : Int32} (h : xrace n sp fw what = true) : rcOK n sp fw := by
  rw [xrace, Bool.and_eq_true, Bool.and_eq_true, Bool.and_eq_true] at h
  obtain ⟨⟨⟨hn, hsp⟩, hfw⟩, hw⟩ := h
  obtain ⟨a, b, rfl, ha, hb, hb0, e2, e1, -⟩ := xsp_p hsp
  refine ⟨xsp_s hsp, ?_, ⟨xin_abs hn, xin_abs2 hn⟩, ?_⟩
  · rw [e2]
    exact fun z => absurd ((nI_eq (a := b) (b := 0) (by omega) (by decide)).mp z) (by omega)
  · rw [xin_iff] at hfw
    obtain ⟨c, hc, rfl⟩ := nI_of (x := fw) (Int32.not_lt.mpr (by have := hfw.1; grind))
    have hc2 : c ≤ 540999 := (nI_leI hc (by decide)).mp hfw.2
    have e3 : nI c / 1000 = nI (c / 1000) := q_div hc 1000 (by decide) (by decide)
    unfold rcQ
    rw [e2, e3, nI_add, show nI (c / 1000 + b) = nI (c / 1000 + b - 1 + 1) by rw [show c / 1000 + b - 1 + 1 = c / 1000 + b by omega], nI_pred]
    rw [q_div (by omega) b hb0 (by omega)]
    exact nI_pos (Nat.lt_of_le_of_lt (Nat.div_le_self _ _) (by omega))
def Q_Model_raceOf (l : Launch) (G : xG) (d nn : Nat) (I : xI) (i : Nat) (S : xSay) (n sp fw what : Int32) (k : Nat) (f : Nat → Int32) (e : Int32) : Prop := XW l G (xR d 0 0) y_Model_raceOf b_Model_raceOf 9 (some .int) xK0 (xZ G nn (xm G xYf (xup I 59 (sc (I 59) (rcF (rcT S n sp fw (mRow I i)) (fw - fw / 1000 * 1000) (61 - k) k f) (rcE (rcT S n sp fw (mRow I i)) (rcX S n sp fw (mRow I i)) (fw - fw / 1000 * 1000) (61 - k) k e)))) (some (.int (rcS (rcT S n sp fw (mRow I i)) (fw - fw / 1000 * 1000) (rcQ sp fw) what (61 - k) k))) 0 0) nn (xm G xYf (xup I 59 (sc (I 59) f e))) 0 0 25 [(0, .ref (xg G 59)), (1, .int (nI i)), (2, .int n), (3, .int sp), (4, .int fw), (5, .int what), (6, .int (sp - sp / 10 * 10)), (7, .int ((fw / 1000 + (sp - sp / 10 * 10) - 1) / (sp - sp / 10 * 10))), (8, .int (nI k))] []
theorem w_Model_raceOf (l : Launch) (G : xG) {d : Nat} (nn : Nat) (hd : 9 ≤ d) (I : xI) (ln i : Nat) (S : xSay) (hK : mK I ln S) (hi : i < 5) (n sp fw what : Int32) (hok : rcOK n sp fw) (hm : ¬ I 61 i < 0 ∧ I 61 i ≤ 9) (h60 : ¬ 60 < ((fw / 1000 + (sp - sp / 10 * 10) - 1) / (sp - sp / 10 * 10))) (k : Nat) (hk : k ≤ 61) (ih : k < 61 → ∀ f e, Q_Model_raceOf l G d nn I i S n sp fw what (k + 1) f e) (f : Nat → Int32) (e : Int32) : Q_Model_raceOf l G d nn I i S n sp fw what k f e := by
  unfold Q_Model_raceOf
  obtain ⟨hs, hpc, hn, hsec⟩ := id hok
  have hs0 : ¬ ((fw / 1000 + (sp - sp / 10 * 10) - 1) / (sp - sp / 10 * 10)) < 0 := hsec
  have hs1 : ((fw / 1000 + (sp - sp / 10 * 10) - 1) / (sp - sp / 10 * 10)) ≤ 100 := by grind
  refine X_iload d_Model_raceOf_25 rfl ?_
  refine X_bipush (v := 60) d_Model_raceOf_27 rfl ?_
  refine X_icmp_gt (tgt := 100) d_Model_raceOf_29 (by decide) (fun c_1 => ?_) (fun c_1 => ?_)
  ·
    have hz : 61 - k = 0 := by have := (nI_ltI (a := 60) (by decide) (by omega)).mp c_1; omega
    refine X_iconst (v := -1) d_Model_raceOf_100 rfl ?_
    rw [hz]
    exact X_iret rfl rfl (xle_rf _) d_Model_raceOf_101
  ·
    refine X_iload d_Model_raceOf_32 rfl ?_
    refine X_bipush (v := 60) d_Model_raceOf_34 rfl ?_
    refine X_icmp_gt (tgt := 100) d_Model_raceOf_36 (by decide) (fun c_2 => absurd c_2 h60) (fun _ => ?_)
    have hlt : k < 61 := Nat.lt_of_not_le (fun z => c_1 (show nI 60 < nI k from nI_lt (by omega) (by omega)))
    have hz : 61 - k = (61 - (k + 1)) + 1 := by omega
    refine X_aload_n d_Model_raceOf_39 rfl rfl ?_
    refine X_iload_n d_Model_raceOf_40 rfl rfl ?_
    refine X_iload_n d_Model_raceOf_41 rfl rfl ?_
    refine X_iload_n d_Model_raceOf_42 rfl rfl ?_
    refine X_bipush (v := 10) d_Model_raceOf_43 rfl ?_
    refine X_idiv d_Model_raceOf_45 (by decide) ?_
    refine X_iload d_Model_raceOf_46 rfl ?_
    refine X_iload d_Model_raceOf_48 rfl ?_
    refine X_iload d_Model_raceOf_50 rfl ?_
    refine X_callVv (rest := []) (by have q := c_Model_tries l G nn (d := d - 1) (by omega) I i (by omega) f e ln S hK n (sp / 10) (nI k) (sp - sp / 10 * 10) ((fw / 1000 + (sp - sp / 10 * 10) - 1) / (sp - sp / 10 * 10)) hs hm hn.1 hn.2 (nI_pos (by omega)) ((nI_leI (b := 100) (by omega) (by decide)).mpr (by omega)) hs0 hs1; exact q) lk_Model_tries ml_Model_218 (xm_obj (show xYf 59 = some sModel from rfl)) rfl rfl (Nat.le_of_ble_eq_true rfl) (xRok (d' := d - 1) (by omega) (by decide)) ⟨Nat.le_refl _, Nat.le_refl _⟩ d_Model_raceOf_52 rfl ?_
    refine X_aload_n d_Model_raceOf_55 rfl rfl ?_
    refine X_getI (v := (hGo S (sp - sp / 10 * 10) 1 (((fw / 1000 + (sp - sp / 10 * 10) - 1) / (sp - sp / 10 * 10))).toNatClampNeg (tTry S n (sp / 10) (nI k) (mRow I i))) 7) fg_Model_174 (show xYf 59 = some sModel from rfl) rfl ((congrFun (xup_s _ _ _) _).trans (sc_32 _ _ _)) d_Model_raceOf_56 ?_
    refine X_if_ne (tgt := 94) d_Model_raceOf_59 (by decide) (fun c_3 => ?_) (fun c_3 => ?_)
    ·
      refine X_iinc d_Model_raceOf_94 rfl (v := (nI k) + 1) rfl (by decide) [1, 2, 3, 4, 5, 6, 7, 8, 0] (L' := [(0, .ref (xg G 59)), (1, .int (nI i)), (2, .int n), (3, .int sp), (4, .int fw), (5, .int what), (6, .int (sp - sp / 10 * 10)), (7, .int ((fw / 1000 + (sp - sp / 10 * 10) - 1) / (sp - sp / 10 * 10))), (8, .int ((nI k) + 1))]) rfl ?_
      refine X_goto (tgt := 25) d_Model_raceOf_97 (by decide) ?_
      have hC : ¬ ((rcT S n sp fw (mRow I i)) k 7 = 0 ∧ xabs ((rcT S n sp fw (mRow I i)) k 6) ≤ (fw - fw / 1000 * 1000)) := by unfold rcT rcQ; grind
      have key := ih hlt (hGo S (sp - sp / 10 * 10) 1 (((fw / 1000 + (sp - sp / 10 * 10) - 1) / (sp - sp / 10 * 10))).toNatClampNeg (tTry S n (sp / 10) (nI k) (mRow I i))) (mEs S (sp - sp / 10 * 10) 1 (tTry S n (sp / 10) (nI k) (mRow I i)) (-1) (((fw / 1000 + (sp - sp / 10 * 10) - 1) / (sp - sp / 10 * 10))).toNatClampNeg)
      unfold Q_Model_raceOf at key
      rw [hz, rcS, rcF, rcE, if_neg hC, if_neg hC, if_neg hC, nI_1]
      exact key
    ·
      refine X_aload_n d_Model_raceOf_62 rfl rfl ?_
      refine X_getI (v := (hGo S (sp - sp / 10 * 10) 1 (((fw / 1000 + (sp - sp / 10 * 10) - 1) / (sp - sp / 10 * 10))).toNatClampNeg (tTry S n (sp / 10) (nI k) (mRow I i))) 6) fg_Model_186 (show xYf 59 = some sModel from rfl) rfl ((congrFun (xup_s _ _ _) _).trans (sc_31 _ _ _)) d_Model_raceOf_63 ?_
      refine X_callS (v := .int (xabs ((hGo S (sp - sp / 10 * 10) 1 (((fw / 1000 + (sp - sp / 10 * 10) - 1) / (sp - sp / 10 * 10))).toNatClampNeg (tTry S n (sp / 10) (nI k) (mRow I i))) 6))) (rest := []) (c_Model_size0 l G nn _ (by omega) ((hGo S (sp - sp / 10 * 10) 1 (((fw / 1000 + (sp - sp / 10 * 10) - 1) / (sp - sp / 10 * 10))).toNatClampNeg (tTry S n (sp / 10) (nI k) (mRow I i))) 6)) lk_Model_size0 ml_Model_164 rfl (Nat.le_of_ble_eq_true rfl) (xRok (d' := d - 1) (by omega) (by decide)) ⟨Nat.le_refl _, Nat.le_refl _⟩ d_Model_raceOf_66 rfl ?_
      refine X_iload d_Model_raceOf_69 rfl ?_
      refine X_sipush (v := 1000) d_Model_raceOf_71 rfl ?_
      refine X_irem d_Model_raceOf_74 (by decide) ?_
      refine X_icmp_gt (tgt := 94) d_Model_raceOf_75 (by decide) (fun c_4 => ?_) (fun c_4 => ?_)
      ·
        refine X_iinc d_Model_raceOf_94 rfl (v := (nI k) + 1) rfl (by decide) [1, 2, 3, 4, 5, 6, 7, 8, 0] (L' := [(0, .ref (xg G 59)), (1, .int (nI i)), (2, .int n), (3, .int sp), (4, .int fw), (5, .int what), (6, .int (sp - sp / 10 * 10)), (7, .int ((fw / 1000 + (sp - sp / 10 * 10) - 1) / (sp - sp / 10 * 10))), (8, .int ((nI k) + 1))]) rfl ?_
        refine X_goto (tgt := 25) d_Model_raceOf_97 (by decide) ?_
        have hC : ¬ ((rcT S n sp fw (mRow I i)) k 7 = 0 ∧ xabs ((rcT S n sp fw (mRow I i)) k 6) ≤ (fw - fw / 1000 * 1000)) := by unfold rcT rcQ; grind
        have key := ih hlt (hGo S (sp - sp / 10 * 10) 1 (((fw / 1000 + (sp - sp / 10 * 10) - 1) / (sp - sp / 10 * 10))).toNatClampNeg (tTry S n (sp / 10) (nI k) (mRow I i))) (mEs S (sp - sp / 10 * 10) 1 (tTry S n (sp / 10) (nI k) (mRow I i)) (-1) (((fw / 1000 + (sp - sp / 10 * 10) - 1) / (sp - sp / 10 * 10))).toNatClampNeg)
        unfold Q_Model_raceOf at key
        rw [hz, rcS, rcF, rcE, if_neg hC, if_neg hC, if_neg hC, nI_1]
        exact key
      ·
        refine X_iload d_Model_raceOf_78 rfl ?_
        refine X_if_ne (tgt := 88) d_Model_raceOf_80 (by decide) (fun c_5 => ?_) (fun c_5 => ?_)
        ·
          refine X_iload d_Model_raceOf_88 rfl ?_
          refine X_iload d_Model_raceOf_90 rfl ?_
          refine X_iadd d_Model_raceOf_92 ?_
          have hC : ((rcT S n sp fw (mRow I i)) k 7 = 0 ∧ xabs ((rcT S n sp fw (mRow I i)) k 6) ≤ (fw - fw / 1000 * 1000)) := by unfold rcT rcQ; grind
          rw [hz, rcS, rcF, rcE, if_pos hC, if_pos hC, if_pos hC, if_neg c_5]
          exact X_iret rfl rfl (xle_rf _) d_Model_raceOf_93
        ·
          refine X_iload d_Model_raceOf_83 rfl ?_
          refine X_goto (tgt := 93) d_Model_raceOf_85 (by decide) ?_
          have hC : ((rcT S n sp fw (mRow I i)) k 7 = 0 ∧ xabs ((rcT S n sp fw (mRow I i)) k 6) ≤ (fw - fw / 1000 * 1000)) := by unfold rcT rcQ; grind
          rw [hz, rcS, rcF, rcE, if_pos hC, if_pos hC, if_pos hC, if_pos c_5]
          exact X_iret rfl rfl (xle_rf _) d_Model_raceOf_93
theorem c_Model_raceOf (l : Launch) (G : xG) {d : Nat} (nn : Nat) (hd : 9 ≤ d) (I : xI) (ln i : Nat) (S : xSay) (hK : mK I ln S) (hi : i < 5) (n sp fw what : Int32) (hok : rcOK n sp fw) (hm : ¬ I 61 i < 0 ∧ I 61 i ≤ 9) (f : Nat → Int32) (e : Int32) : XM l G d y_Model_raceOf b_Model_raceOf 9 (some .int) 0 0 xK0 [.ref (xg G 59), .int (nI i), .int n, .int sp, .int fw, .int what] nn (xm G xYf (xup I 59 (sc (I 59) f e))) (some (.int (mRc S n sp fw what (mRow I i)))) nn (xm G xYf (xup I 59 (sc (I 59) (mRcF S n sp fw (mRow I i) f) (mRcE S n sp fw (mRow I i) e)))) := by
  obtain ⟨hs, hpc, hn, hsec⟩ := id hok
  refine XM.of (by decide) (Nat.le_of_ble_eq_true rfl) (L := [(0, .ref (xg G 59)), (1, .int (nI i)), (2, .int n), (3, .int sp), (4, .int fw), (5, .int what)]) rfl ?_
  refine X_iload_n d_Model_raceOf_0 rfl rfl ?_
  refine X_bipush (v := 10) d_Model_raceOf_1 rfl ?_
  refine X_irem d_Model_raceOf_3 (by decide) ?_
  refine X_istore d_Model_raceOf_4 (by decide) [1, 2, 3, 4, 5, 6, 0] (L' := [(0, .ref (xg G 59)), (1, .int (nI i)), (2, .int n), (3, .int sp), (4, .int fw), (5, .int what), (6, .int (sp - sp / 10 * 10))]) rfl ?_
  refine X_iload d_Model_raceOf_6 rfl ?_
  refine X_sipush (v := 1000) d_Model_raceOf_8 rfl ?_
  refine X_idiv d_Model_raceOf_11 (by decide) ?_
  refine X_iload d_Model_raceOf_12 rfl ?_
  refine X_iadd d_Model_raceOf_14 ?_
  refine X_iconst (v := 1) d_Model_raceOf_15 rfl ?_
  refine X_isub d_Model_raceOf_16 ?_
  refine X_iload d_Model_raceOf_17 rfl ?_
  refine X_idiv d_Model_raceOf_19 hpc ?_
  refine X_istore d_Model_raceOf_20 (by decide) [1, 2, 3, 4, 5, 6, 7, 0] (L' := [(0, .ref (xg G 59)), (1, .int (nI i)), (2, .int n), (3, .int sp), (4, .int fw), (5, .int what), (6, .int (sp - sp / 10 * 10)), (7, .int ((((fw / 1000) + (sp - sp / 10 * 10)) - 1) / (sp - sp / 10 * 10)))]) rfl ?_
  refine X_iconst (v := 0) d_Model_raceOf_22 rfl ?_
  refine X_istore d_Model_raceOf_23 (by decide) [1, 2, 3, 4, 5, 6, 7, 8, 0] (L' := [(0, .ref (xg G 59)), (1, .int (nI i)), (2, .int n), (3, .int sp), (4, .int fw), (5, .int what), (6, .int (sp - sp / 10 * 10)), (7, .int ((((fw / 1000) + (sp - sp / 10 * 10)) - 1) / (sp - sp / 10 * 10))), (8, .int 0)]) rfl ?_
  by_cases h60 : 60 < ((fw / 1000 + (sp - sp / 10 * 10) - 1) / (sp - sp / 10 * 10))
  ·
    refine X_iload d_Model_raceOf_25 rfl ?_
    refine X_bipush (v := 60) d_Model_raceOf_27 rfl ?_
    refine X_icmp_gt (tgt := 100) d_Model_raceOf_29 (by decide) (fun c_1 => absurd c_1 (by decide)) (fun _ => ?_)
    refine X_iload d_Model_raceOf_32 rfl ?_
    refine X_bipush (v := 60) d_Model_raceOf_34 rfl ?_
    refine X_icmp_gt (tgt := 100) d_Model_raceOf_36 (by decide) (fun _ => ?_) (fun c_2 => absurd c_2 (fun z => z h60))
    refine X_iconst (v := -1) d_Model_raceOf_100 rfl ?_
    have hN : rcN (rcQ sp fw) = 0 := if_pos h60
    rw [mRc, mRcF, mRcE, hN]
    exact X_iret rfl rfl (xle_rf _) d_Model_raceOf_101
  ·
    have hN : rcN (rcQ sp fw) = 61 := if_neg h60
    have hx := xloop (Q := fun k => ∀ f e, Q_Model_raceOf l G d nn I i S n sp fw what k f e) (T := 61) (fun k hk ih f e => w_Model_raceOf l G nn hd I ln i S hK hi n sp fw what hok hm h60 k hk ih f e) 0 (by decide) f e
    unfold Q_Model_raceOf at hx
    rw [mRc, mRcF, mRcE, hN]
    exact hx
def aRaceM (hc : Nat) (L : xSay) (R : Nat → Nat → Int32) (h n sp fw what : Int32) : Int32 := if xin h 0 (nI hc - 1) = true then (if xrace n sp fw what = true then mRc L n sp fw what (R h.toNatClampNeg) else -100007) else -100005
theorem c_Model_race (l : Launch) (G : xG) {d : Nat} (nn : Nat) (hd : 10 ≤ d) (I : xI) (hc tc ln : Nat) (SS : Nat → xSay) (hK0 : mOK I hc tc ln SS) (h n sp fw what : Int32) : XM l G d y_Model_race b_Model_race 6 (some .int) 0 0 xK0 [.ref (xg G 59), .int h, .int n, .int sp, .int fw, .int what] nn (xm G xYf I) (some (.int (aRaceM hc (SS ln) (mRow I) h n sp fw what))) nn (xm G xYf (if xin h 0 (nI hc - 1) = true ∧ xrace n sp fw what = true then xup I 59 (sc (I 59) (mRcF (SS ln) n sp fw (mRow I h.toNatClampNeg) (mCur I)) (mRcE (SS ln) n sp fw (mRow I h.toNatClampNeg) (I 59 33))) else I)) := by
  obtain ⟨⟨h0, h5⟩, ⟨h8, h6⟩, ⟨h9, hl⟩, hTs, hR⟩ := id hK0
  have hK : mK I ln (SS ln) := ⟨hTs ln hl, h9, by omega⟩
  generalize hSS : SS ln = S at hK ⊢
  refine XM.of (by decide) (Nat.le_of_ble_eq_true rfl) (L := [(0, .ref (xg G 59)), (1, .int h), (2, .int n), (3, .int sp), (4, .int fw), (5, .int what)]) rfl ?_
  refine X_aload_n d_Model_race_0 rfl rfl ?_
  refine X_iload_n d_Model_race_1 rfl rfl ?_
  refine X_callV (v := .int (xb (xin h 0 (nI hc - 1)))) (rest := []) (c_Model_isHead l G nn (by omega) I hc tc ln SS hK0 h) lk_Model_isHead ml_Model_149 (xm_obj (show xYf 59 = some sModel from rfl)) rfl rfl (Nat.le_of_ble_eq_true rfl) (xRok (d' := d - 1) (by omega) (by decide)) ⟨Nat.le_refl _, Nat.le_refl _⟩ d_Model_race_2 rfl ?_
  refine X_ifb_ne (tgt := 11) d_Model_race_5 (by decide) (fun c_1 => ?_) (fun c_1 => ?_)
  ·
    obtain ⟨i, hi, rfl⟩ := cHead h5 c_1
    refine X_iload_n d_Model_race_11 rfl rfl ?_
    refine X_iload_n d_Model_race_12 rfl rfl ?_
    refine X_iload d_Model_race_13 rfl ?_
    refine X_iload d_Model_race_15 rfl ?_
    refine X_callS (v := .int (xb (xrace n sp fw what))) (rest := []) (k_Model_isRace l G nn _ (by omega) n sp fw what) lk_Model_isRace ml_Model_223 rfl (Nat.le_of_ble_eq_true rfl) (xRok (d' := d - 1) (by omega) (by decide)) ⟨Nat.le_refl _, Nat.le_refl _⟩ d_Model_race_17 rfl ?_
    refine X_ifb_eq (tgt := 37) d_Model_race_20 (by decide) (fun c_2 => ?_) (fun c_2 => ?_)
    ·
      refine X_ldc cs_Model_157 d_Model_race_37 ?_
      exact X_iret rfl (congrArg (fun q => some (Value.int q)) (by subst hSS; first | (simp [aRaceM, c_1, nI_cl (show i < 2 ^ 31 by omega), c_2, xl_1_0, xl_1_1, xl_2_0, xl_2_1, xl_2_2, xl_3_0, xl_3_1, xl_3_2, xl_3_3]; done) | (exfalso; simp_all; done) | (clear hTs hR hK0 hK; simp_all [aRaceM, nI_cl (show i < 2 ^ 31 by omega)]; done))) (xle_of (congrArg (xm G xYf) (by first | (subst hSS; simp [c_1, nI_cl (show i < 2 ^ 31 by omega), c_2, xl_3_0, xl_3_1, xl_3_2, xl_3_3, xl_2_0, xl_2_1, xl_2_2, xl_1_0, xl_1_1]; done) | (exfalso; simp_all; done)))) d_Model_race_39
    ·
      refine X_aload_n d_Model_race_23 rfl rfl ?_
      refine X_iload_n d_Model_race_24 rfl rfl ?_
      refine X_iload_n d_Model_race_25 rfl rfl ?_
      refine X_iload_n d_Model_race_26 rfl rfl ?_
      refine X_iload d_Model_race_27 rfl ?_
      refine X_iload d_Model_race_29 rfl ?_
      refine X_callV (v := .int (mRc S n sp fw what (mRow I i))) (rest := []) (by have q := c_Model_raceOf l G nn (d := d - 1) (by omega) I ln i S hK (by omega) n sp fw what (xrace_ok c_2) (hR i (by omega)).1 (mCur I) (I 59 33); rw [sc_self] at q; exact q) lk_Model_raceOf ml_Model_227 (xm_obj (show xYf 59 = some sModel from rfl)) rfl rfl (Nat.le_of_ble_eq_true rfl) (xRok (d' := d - 1) (by omega) (by decide)) ⟨Nat.le_refl _, Nat.le_refl _⟩ d_Model_race_31 rfl ?_
      refine X_goto (tgt := 39) d_Model_race_34 (by decide) ?_
      exact X_iret rfl (congrArg (fun q => some (Value.int q)) (by subst hSS; first | (simp [aRaceM, c_1, nI_cl (show i < 2 ^ 31 by omega), c_2, xl_1_0, xl_1_1, xl_2_0, xl_2_1, xl_2_2, xl_3_0, xl_3_1, xl_3_2, xl_3_3]; done) | (exfalso; simp_all; done) | (clear hTs hR hK0 hK; simp_all [aRaceM, nI_cl (show i < 2 ^ 31 by omega)]; done))) (xle_of (congrArg (xm G xYf) (by first | (subst hSS; simp [c_1, nI_cl (show i < 2 ^ 31 by omega), c_2, xl_3_0, xl_3_1, xl_3_2, xl_3_3, xl_2_0, xl_2_1, xl_2_2, xl_1_0, xl_1_1]; done) | (exfalso; simp_all; done)))) d_Model_race_39
  ·
    refine X_ldc cs_Model_156 d_Model_race_8 ?_
    exact X_iret rfl (congrArg (fun q => some (Value.int q)) (by subst hSS; first | (simp [aRaceM, c_1, xl_1_0, xl_1_1, xl_2_0, xl_2_1, xl_2_2, xl_3_0, xl_3_1, xl_3_2, xl_3_3]; done) | (exfalso; simp_all; done) | (clear hTs hR hK0 hK; simp_all [aRaceM]; done))) (xle_of (congrArg (xm G xYf) (by first | (subst hSS; simp [c_1, xl_3_0, xl_3_1, xl_3_2, xl_3_3, xl_2_0, xl_2_1, xl_2_2, xl_1_0, xl_1_1]; done) | (exfalso; simp_all; done)))) d_Model_race_10
def winC (V : Nat → Int32) : Nat → Int32 → Int32 → Bool := fun k b l => !decide (V k = -1) && (decide (b = -1) || decide (V k < l))
def wnF (U : Nat → (Nat → Int32) → Nat → Int32) : Nat → Nat → (Nat → Int32) → Nat → Int32
  | 0, _, f => f
  | r + 1, h, f => wnF U r (h + 1) (U h f)
def wnE (U : Nat → Int32 → Int32) : Nat → Nat → Int32 → Int32
  | 0, _, e => e
  | r + 1, h, e => wnE U r (h + 1) (U h e)
def aWinsM (hc : Nat) (L : xSay) (R : Nat → Nat → Int32) (n sp fw what : Int32) : Int32 := if xrace n sp fw what = true then rUndo what (sBest (winC (fun h => mRc L n sp fw 1 (R h))) nI (fun h => mRc L n sp fw 1 (R h)) hc 0 (-1) (-1)) else -100007
def Q_Model_wins (l : Launch) (G : xG) (d nn : Nat) (I : xI) (hc : Nat) (S : xSay) (n sp fw what : Int32) (k : Nat) (best least : Int32) (f : Nat → Int32) (e : Int32) : Prop := XW l G (xR d 0 0) y_Model_wins b_Model_wins 10 (some .int) xK0 (xZ G nn (xm G xYf (xup I 59 (sc (I 59) (wnF (fun h f => mRcF S n sp fw (mRow I h) f) (hc - k) k f) (wnE (fun h e => mRcE S n sp fw (mRow I h) e) (hc - k) k e)))) (some (.int (rUndo what (sBest (winC (fun h => mRc S n sp fw 1 (mRow I h))) nI (fun h => mRc S n sp fw 1 (mRow I h)) (hc - k) k best least)))) 0 0) nn (xm G xYf (xup I 59 (sc (I 59) f e))) 0 0 23 [(0, .ref (xg G 59)), (1, .int n), (2, .int sp), (3, .int fw), (4, .int what), (5, .int best), (6, .int least), (7, .int (nI k))] []
theorem w_Model_wins (l : Launch) (G : xG) {d : Nat} (nn : Nat) (hd : 10 ≤ d) (I : xI) (hc tc ln : Nat) (SS : Nat → xSay) (hK0 : mOK I hc tc ln SS) (n sp fw what : Int32) (hok : rcOK n sp fw) (k : Nat) (hk : k ≤ hc) (ih : k < hc → ∀ best least f e, Q_Model_wins l G d nn I hc (SS ln) n sp fw what (k + 1) best least f e) (best least : Int32) (f : Nat → Int32) (e : Int32) : Q_Model_wins l G d nn I hc (SS ln) n sp fw what k best least f e := by
  unfold Q_Model_wins
  obtain ⟨⟨h0, h5⟩, ⟨h8, h6⟩, ⟨h9, hl⟩, hTs, hR⟩ := id hK0
  have hK : mK I ln (SS ln) := ⟨hTs ln hl, h9, by omega⟩
  generalize hSS : SS ln = S at hK ⊢
  refine X_iload d_Model_wins_23 rfl ?_
  refine X_aload_n d_Model_wins_25 rfl rfl ?_
  refine X_getI (v := nI hc) fg_Model_63 (show xYf 59 = some sModel from rfl) rfl ((congrFun (xup_s _ _ _) _).trans ((sc_o _ _ _ (by decide)).trans (h0))) d_Model_wins_26 ?_
  refine X_icmp_ge (tgt := 104) d_Model_wins_29 (by decide) (fun c_1 => ?_) (fun c_1 => ?_)
  ·
    refine X_iload d_Model_wins_104 rfl ?_
    refine X_if_ne (tgt := 114) d_Model_wins_106 (by decide) (fun c_2 => ?_) (fun c_2 => ?_)
    ·
      refine X_iload d_Model_wins_114 rfl ?_
      have hz : hc - k = 0 := by have := nI_done hk (by omega) c_1; omega
      rw [hz]
      exact X_iret rfl (congrArg (fun q => some (Value.int q)) (by rw [rUndo, if_neg c_2]; rfl)) (xle_rf _) d_Model_wins_116
    ·
      refine X_iload d_Model_wins_109 rfl ?_
      refine X_goto (tgt := 116) d_Model_wins_111 (by decide) ?_
      have hz : hc - k = 0 := by have := nI_done hk (by omega) c_1; omega
      rw [hz]
      exact X_iret rfl (congrArg (fun q => some (Value.int q)) (by rw [rUndo, if_pos c_2]; rfl)) (xle_rf _) d_Model_wins_116
  ·
    have hltk : k < 5 := by have := nI_more hk (by omega) c_1; omega
    refine X_aload_n d_Model_wins_32 rfl rfl ?_
    refine X_iload d_Model_wins_33 rfl ?_
    refine X_iload_n d_Model_wins_35 rfl rfl ?_
    refine X_iload_n d_Model_wins_36 rfl rfl ?_
    refine X_iload_n d_Model_wins_37 rfl rfl ?_
    refine X_iconst (v := 1) d_Model_wins_38 rfl ?_
    refine X_callV (v := .int (mRc S n sp fw 1 (mRow I k))) (rest := []) (by have q := c_Model_raceOf l G nn (d := d - 1) (by omega) I ln k S hK (by omega) n sp fw 1 hok (hR k (by omega)).1 f e; exact q) lk_Model_raceOf ml_Model_227 (xm_obj (show xYf 59 = some sModel from rfl)) rfl rfl (Nat.le_of_ble_eq_true rfl) (xRok (d' := d - 1) (by omega) (by decide)) ⟨Nat.le_refl _, Nat.le_refl _⟩ d_Model_wins_39 rfl ?_
    refine X_istore d_Model_wins_42 (by decide) [1, 2, 3, 4, 5, 6, 7, 8, 0] (L' := [(0, .ref (xg G 59)), (1, .int n), (2, .int sp), (3, .int fw), (4, .int what), (5, .int best), (6, .int least), (7, .int (nI k)), (8, .int (mRc S n sp fw 1 (mRow I k)))]) rfl ?_
    refine X_iload d_Model_wins_44 rfl ?_
    refine X_iconst (v := -1) d_Model_wins_46 rfl ?_
    refine X_icmp_eq (tgt := 67) d_Model_wins_47 (by decide) (fun c_3 => ?_) (fun c_3 => ?_)
    ·
      refine X_iconst (v := 0) d_Model_wins_67 rfl ?_
      refine X_istore d_Model_wins_68 (by decide) [1, 2, 3, 4, 5, 6, 7, 8, 9, 0] (L' := [(0, .ref (xg G 59)), (1, .int n), (2, .int sp), (3, .int fw), (4, .int what), (5, .int best), (6, .int least), (7, .int (nI k)), (8, .int (mRc S n sp fw 1 (mRow I k))), (9, .int 0)]) rfl ?_
      refine X_iload d_Model_wins_70 rfl ?_
      refine X_if_eq (tgt := 80) d_Model_wins_72 (by decide) (fun _ => ?_) (fun c_4 => absurd c_4 (by decide))
      refine X_iload d_Model_wins_80 rfl ?_
      refine X_istore d_Model_wins_82 (by decide) [1, 2, 3, 4, 5, 0, 6, 7, 8, 9] (L' := [(0, .ref (xg G 59)), (1, .int n), (2, .int sp), (3, .int fw), (4, .int what), (5, .int best), (6, .int least), (7, .int (nI k)), (8, .int (mRc S n sp fw 1 (mRow I k))), (9, .int 0)]) rfl ?_
      refine X_iload d_Model_wins_84 rfl ?_
      refine X_if_eq (tgt := 94) d_Model_wins_86 (by decide) (fun _ => ?_) (fun c_5 => absurd c_5 (by decide))
      refine X_iload d_Model_wins_94 rfl ?_
      refine X_istore d_Model_wins_96 (by decide) [1, 2, 3, 4, 5, 6, 0, 7, 8, 9] (L' := [(0, .ref (xg G 59)), (1, .int n), (2, .int sp), (3, .int fw), (4, .int what), (5, .int best), (6, .int least), (7, .int (nI k)), (8, .int (mRc S n sp fw 1 (mRow I k))), (9, .int 0)]) rfl ?_
      refine X_iinc d_Model_wins_98 rfl (v := (nI k) + 1) rfl (by decide) [1, 2, 3, 4, 5, 6, 7, 0, 8, 9] (L' := [(0, .ref (xg G 59)), (1, .int n), (2, .int sp), (3, .int fw), (4, .int what), (5, .int best), (6, .int least), (7, .int ((nI k) + 1)), (8, .int (mRc S n sp fw 1 (mRow I k))), (9, .int 0)]) rfl ?_
      refine X_goto (tgt := 23) d_Model_wins_101 (by decide) ?_
      have hlt : k < hc := nI_more hk (by omega) c_1
      have hz : hc - k = (hc - (k + 1)) + 1 := by omega
      have key := ih hlt best least (mRcF S n sp fw (mRow I k) f) (mRcE S n sp fw (mRow I k) e)
      unfold Q_Model_wins at key
      rw [hSS] at key
      have hC : ¬ winC (fun h => mRc S n sp fw 1 (mRow I h)) k best least = true := by rw [winC]; grind
      rw [hz, wnF, wnE, sBest_n hC, nI_1]
      refine X_sub [0, 1, 2, 3, 4, 5, 6, 7] (L' := [(0, .ref (xg G 59)), (1, .int n), (2, .int sp), (3, .int fw), (4, .int what), (5, .int best), (6, .int least), (7, .int (nI (k + 1)))]) rfl ?_
      exact key
    ·
      refine X_iload d_Model_wins_50 rfl ?_
      refine X_iconst (v := -1) d_Model_wins_52 rfl ?_
      refine X_icmp_eq (tgt := 63) d_Model_wins_53 (by decide) (fun c_6 => ?_) (fun c_6 => ?_)
      ·
        refine X_iconst (v := 1) d_Model_wins_63 rfl ?_
        refine X_goto (tgt := 68) d_Model_wins_64 (by decide) ?_
        refine X_istore d_Model_wins_68 (by decide) [1, 2, 3, 4, 5, 6, 7, 8, 9, 0] (L' := [(0, .ref (xg G 59)), (1, .int n), (2, .int sp), (3, .int fw), (4, .int what), (5, .int best), (6, .int least), (7, .int (nI k)), (8, .int (mRc S n sp fw 1 (mRow I k))), (9, .int 1)]) rfl ?_
        refine X_iload d_Model_wins_70 rfl ?_
        refine X_if_eq (tgt := 80) d_Model_wins_72 (by decide) (fun c_7 => absurd c_7 (by decide)) (fun _ => ?_)
        refine X_iload d_Model_wins_75 rfl ?_
        refine X_goto (tgt := 82) d_Model_wins_77 (by decide) ?_
        refine X_istore d_Model_wins_82 (by decide) [1, 2, 3, 4, 5, 0, 6, 7, 8, 9] (L' := [(0, .ref (xg G 59)), (1, .int n), (2, .int sp), (3, .int fw), (4, .int what), (5, .int (nI k)), (6, .int least), (7, .int (nI k)), (8, .int (mRc S n sp fw 1 (mRow I k))), (9, .int 1)]) rfl ?_
        refine X_iload d_Model_wins_84 rfl ?_
        refine X_if_eq (tgt := 94) d_Model_wins_86 (by decide) (fun c_8 => absurd c_8 (by decide)) (fun _ => ?_)
        refine X_iload d_Model_wins_89 rfl ?_
        refine X_goto (tgt := 96) d_Model_wins_91 (by decide) ?_
        refine X_istore d_Model_wins_96 (by decide) [1, 2, 3, 4, 5, 6, 0, 7, 8, 9] (L' := [(0, .ref (xg G 59)), (1, .int n), (2, .int sp), (3, .int fw), (4, .int what), (5, .int (nI k)), (6, .int (mRc S n sp fw 1 (mRow I k))), (7, .int (nI k)), (8, .int (mRc S n sp fw 1 (mRow I k))), (9, .int 1)]) rfl ?_
        refine X_iinc d_Model_wins_98 rfl (v := (nI k) + 1) rfl (by decide) [1, 2, 3, 4, 5, 6, 7, 0, 8, 9] (L' := [(0, .ref (xg G 59)), (1, .int n), (2, .int sp), (3, .int fw), (4, .int what), (5, .int (nI k)), (6, .int (mRc S n sp fw 1 (mRow I k))), (7, .int ((nI k) + 1)), (8, .int (mRc S n sp fw 1 (mRow I k))), (9, .int 1)]) rfl ?_
        refine X_goto (tgt := 23) d_Model_wins_101 (by decide) ?_
        have hlt : k < hc := nI_more hk (by omega) c_1
        have hz : hc - k = (hc - (k + 1)) + 1 := by omega
        have key := ih hlt (nI k) (mRc S n sp fw 1 (mRow I k)) (mRcF S n sp fw (mRow I k) f) (mRcE S n sp fw (mRow I k) e)
        unfold Q_Model_wins at key
        rw [hSS] at key
        have hC : winC (fun h => mRc S n sp fw 1 (mRow I h)) k best least = true := by rw [winC]; grind
        rw [hz, wnF, wnE, sBest_y hC, nI_1]
        refine X_sub [0, 1, 2, 3, 4, 5, 6, 7] (L' := [(0, .ref (xg G 59)), (1, .int n), (2, .int sp), (3, .int fw), (4, .int what), (5, .int (nI k)), (6, .int (mRc S n sp fw 1 (mRow I k))), (7, .int (nI (k + 1)))]) rfl ?_
        exact key
      ·
        refine X_iload d_Model_wins_56 rfl ?_
        refine X_iload d_Model_wins_58 rfl ?_
        refine X_icmp_ge (tgt := 67) d_Model_wins_60 (by decide) (fun c_9 => ?_) (fun c_9 => ?_)
        ·
          refine X_iconst (v := 0) d_Model_wins_67 rfl ?_
          refine X_istore d_Model_wins_68 (by decide) [1, 2, 3, 4, 5, 6, 7, 8, 9, 0] (L' := [(0, .ref (xg G 59)), (1, .int n), (2, .int sp), (3, .int fw), (4, .int what), (5, .int best), (6, .int least), (7, .int (nI k)), (8, .int (mRc S n sp fw 1 (mRow I k))), (9, .int 0)]) rfl ?_
          refine X_iload d_Model_wins_70 rfl ?_
          refine X_if_eq (tgt := 80) d_Model_wins_72 (by decide) (fun _ => ?_) (fun c_10 => absurd c_10 (by decide))
          refine X_iload d_Model_wins_80 rfl ?_
          refine X_istore d_Model_wins_82 (by decide) [1, 2, 3, 4, 5, 0, 6, 7, 8, 9] (L' := [(0, .ref (xg G 59)), (1, .int n), (2, .int sp), (3, .int fw), (4, .int what), (5, .int best), (6, .int least), (7, .int (nI k)), (8, .int (mRc S n sp fw 1 (mRow I k))), (9, .int 0)]) rfl ?_
          refine X_iload d_Model_wins_84 rfl ?_
          refine X_if_eq (tgt := 94) d_Model_wins_86 (by decide) (fun _ => ?_) (fun c_11 => absurd c_11 (by decide))
          refine X_iload d_Model_wins_94 rfl ?_
          refine X_istore d_Model_wins_96 (by decide) [1, 2, 3, 4, 5, 6, 0, 7, 8, 9] (L' := [(0, .ref (xg G 59)), (1, .int n), (2, .int sp), (3, .int fw), (4, .int what), (5, .int best), (6, .int least), (7, .int (nI k)), (8, .int (mRc S n sp fw 1 (mRow I k))), (9, .int 0)]) rfl ?_
          refine X_iinc d_Model_wins_98 rfl (v := (nI k) + 1) rfl (by decide) [1, 2, 3, 4, 5, 6, 7, 0, 8, 9] (L' := [(0, .ref (xg G 59)), (1, .int n), (2, .int sp), (3, .int fw), (4, .int what), (5, .int best), (6, .int least), (7, .int ((nI k) + 1)), (8, .int (mRc S n sp fw 1 (mRow I k))), (9, .int 0)]) rfl ?_
          refine X_goto (tgt := 23) d_Model_wins_101 (by decide) ?_
          have hlt : k < hc := nI_more hk (by omega) c_1
          have hz : hc - k = (hc - (k + 1)) + 1 := by omega
          have key := ih hlt best least (mRcF S n sp fw (mRow I k) f) (mRcE S n sp fw (mRow I k) e)
          unfold Q_Model_wins at key
          rw [hSS] at key
          have hC : ¬ winC (fun h => mRc S n sp fw 1 (mRow I h)) k best least = true := by rw [winC]; grind
          rw [hz, wnF, wnE, sBest_n hC, nI_1]
          refine X_sub [0, 1, 2, 3, 4, 5, 6, 7] (L' := [(0, .ref (xg G 59)), (1, .int n), (2, .int sp), (3, .int fw), (4, .int what), (5, .int best), (6, .int least), (7, .int (nI (k + 1)))]) rfl ?_
          exact key
        ·
          refine X_iconst (v := 1) d_Model_wins_63 rfl ?_
          refine X_goto (tgt := 68) d_Model_wins_64 (by decide) ?_
          refine X_istore d_Model_wins_68 (by decide) [1, 2, 3, 4, 5, 6, 7, 8, 9, 0] (L' := [(0, .ref (xg G 59)), (1, .int n), (2, .int sp), (3, .int fw), (4, .int what), (5, .int best), (6, .int least), (7, .int (nI k)), (8, .int (mRc S n sp fw 1 (mRow I k))), (9, .int 1)]) rfl ?_
          refine X_iload d_Model_wins_70 rfl ?_
          refine X_if_eq (tgt := 80) d_Model_wins_72 (by decide) (fun c_12 => absurd c_12 (by decide)) (fun _ => ?_)
          refine X_iload d_Model_wins_75 rfl ?_
          refine X_goto (tgt := 82) d_Model_wins_77 (by decide) ?_
          refine X_istore d_Model_wins_82 (by decide) [1, 2, 3, 4, 5, 0, 6, 7, 8, 9] (L' := [(0, .ref (xg G 59)), (1, .int n), (2, .int sp), (3, .int fw), (4, .int what), (5, .int (nI k)), (6, .int least), (7, .int (nI k)), (8, .int (mRc S n sp fw 1 (mRow I k))), (9, .int 1)]) rfl ?_
          refine X_iload d_Model_wins_84 rfl ?_
          refine X_if_eq (tgt := 94) d_Model_wins_86 (by decide) (fun c_13 => absurd c_13 (by decide)) (fun _ => ?_)
          refine X_iload d_Model_wins_89 rfl ?_
          refine X_goto (tgt := 96) d_Model_wins_91 (by decide) ?_
          refine X_istore d_Model_wins_96 (by decide) [1, 2, 3, 4, 5, 6, 0, 7, 8, 9] (L' := [(0, .ref (xg G 59)), (1, .int n), (2, .int sp), (3, .int fw), (4, .int what), (5, .int (nI k)), (6, .int (mRc S n sp fw 1 (mRow I k))), (7, .int (nI k)), (8, .int (mRc S n sp fw 1 (mRow I k))), (9, .int 1)]) rfl ?_
          refine X_iinc d_Model_wins_98 rfl (v := (nI k) + 1) rfl (by decide) [1, 2, 3, 4, 5, 6, 7, 0, 8, 9] (L' := [(0, .ref (xg G 59)), (1, .int n), (2, .int sp), (3, .int fw), (4, .int what), (5, .int (nI k)), (6, .int (mRc S n sp fw 1 (mRow I k))), (7, .int ((nI k) + 1)), (8, .int (mRc S n sp fw 1 (mRow I k))), (9, .int 1)]) rfl ?_
          refine X_goto (tgt := 23) d_Model_wins_101 (by decide) ?_
          have hlt : k < hc := nI_more hk (by omega) c_1
          have hz : hc - k = (hc - (k + 1)) + 1 := by omega
          have key := ih hlt (nI k) (mRc S n sp fw 1 (mRow I k)) (mRcF S n sp fw (mRow I k) f) (mRcE S n sp fw (mRow I k) e)
          unfold Q_Model_wins at key
          rw [hSS] at key
          have hC : winC (fun h => mRc S n sp fw 1 (mRow I h)) k best least = true := by rw [winC]; grind
          rw [hz, wnF, wnE, sBest_y hC, nI_1]
          refine X_sub [0, 1, 2, 3, 4, 5, 6, 7] (L' := [(0, .ref (xg G 59)), (1, .int n), (2, .int sp), (3, .int fw), (4, .int what), (5, .int (nI k)), (6, .int (mRc S n sp fw 1 (mRow I k))), (7, .int (nI (k + 1)))]) rfl ?_
          exact key
theorem c_Model_wins (l : Launch) (G : xG) {d : Nat} (nn : Nat) (hd : 10 ≤ d) (I : xI) (hc tc ln : Nat) (SS : Nat → xSay) (hK0 : mOK I hc tc ln SS) (n sp fw what : Int32) : XM l G d y_Model_wins b_Model_wins 10 (some .int) 0 0 xK0 [.ref (xg G 59), .int n, .int sp, .int fw, .int what] nn (xm G xYf I) (some (.int (aWinsM hc (SS ln) (mRow I) n sp fw what))) nn (xm G xYf (if xrace n sp fw what = true then xup I 59 (sc (I 59) (wnF (fun h f => mRcF (SS ln) n sp fw (mRow I h) f) hc 0 (mCur I)) (wnE (fun h e => mRcE (SS ln) n sp fw (mRow I h) e) hc 0 (I 59 33))) else I)) := by
  obtain ⟨⟨h0, h5⟩, ⟨h8, h6⟩, ⟨h9, hl⟩, hTs, hR⟩ := id hK0
  have hK : mK I ln (SS ln) := ⟨hTs ln hl, h9, by omega⟩
  generalize hSS : SS ln = S at hK ⊢
  refine XM.of (by decide) (Nat.le_of_ble_eq_true rfl) (L := [(0, .ref (xg G 59)), (1, .int n), (2, .int sp), (3, .int fw), (4, .int what)]) rfl ?_
  refine X_iload_n d_Model_wins_0 rfl rfl ?_
  refine X_iload_n d_Model_wins_1 rfl rfl ?_
  refine X_iload_n d_Model_wins_2 rfl rfl ?_
  refine X_iload d_Model_wins_3 rfl ?_
  refine X_callS (v := .int (xb (xrace n sp fw what))) (rest := []) (k_Model_isRace l G nn _ (by omega) n sp fw what) lk_Model_isRace ml_Model_223 rfl (Nat.le_of_ble_eq_true rfl) (xRok (d' := d - 1) (by omega) (by decide)) ⟨Nat.le_refl _, Nat.le_refl _⟩ d_Model_wins_5 rfl ?_
  refine X_ifb_ne (tgt := 14) d_Model_wins_8 (by decide) (fun c_1 => ?_) (fun c_1 => ?_)
  ·
    refine X_iconst (v := -1) d_Model_wins_14 rfl ?_
    refine X_istore d_Model_wins_15 (by decide) [1, 2, 3, 4, 5, 0] (L' := [(0, .ref (xg G 59)), (1, .int n), (2, .int sp), (3, .int fw), (4, .int what), (5, .int (-1))]) rfl ?_
    refine X_iconst (v := -1) d_Model_wins_17 rfl ?_
    refine X_istore d_Model_wins_18 (by decide) [1, 2, 3, 4, 5, 6, 0] (L' := [(0, .ref (xg G 59)), (1, .int n), (2, .int sp), (3, .int fw), (4, .int what), (5, .int (-1)), (6, .int (-1))]) rfl ?_
    refine X_iconst (v := 0) d_Model_wins_20 rfl ?_
    refine X_istore d_Model_wins_21 (by decide) [1, 2, 3, 4, 5, 6, 7, 0] (L' := [(0, .ref (xg G 59)), (1, .int n), (2, .int sp), (3, .int fw), (4, .int what), (5, .int (-1)), (6, .int (-1)), (7, .int 0)]) rfl ?_
    have hx := xloop (Q := fun k => ∀ best least f e, Q_Model_wins l G d nn I hc (SS ln) n sp fw what k best least f e) (T := hc) (fun k hk ih best least f e => w_Model_wins l G nn hd I hc tc ln SS hK0 n sp fw what (xrace_ok c_1) k hk ih best least f e) 0 (Nat.zero_le _) (-1) (-1) (mCur I) (I 59 33)
    unfold Q_Model_wins at hx
    rw [sc_self, Nat.sub_zero, hSS] at hx
    rw [aWinsM, if_pos c_1, if_pos c_1]
    exact hx
  ·
    refine X_ldc cs_Model_157 d_Model_wins_11 ?_
    exact X_iret rfl (congrArg (fun q => some (Value.int q)) (by subst hSS; first | (simp [aWinsM, c_1, xl_1_0, xl_1_1, xl_2_0, xl_2_1, xl_2_2, xl_3_0, xl_3_1, xl_3_2, xl_3_3]; done) | (exfalso; simp_all; done) | (clear hTs hR hK0 hK; simp_all [aWinsM]; done))) (xle_of (congrArg (xm G xYf) (by first | (subst hSS; simp [c_1, xl_3_0, xl_3_1, xl_3_2, xl_3_3, xl_2_0, xl_2_1, xl_2_2, xl_1_0, xl_1_1]; done) | (exfalso; simp_all; done)))) d_Model_wins_13
