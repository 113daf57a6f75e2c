theorem mTold_ok {hc : Nat} (h5 : hc ≤ 5) {srt : Nat → Int32} {s h n sp : Int32} (hr : mTold hc srt s h n sp = 0) : ∃ q i, q < 4 ∧ i < hc ∧ s = nI q ∧ h = nI i ∧ rTold hc srt s h = 0 ∧ xin n (-40) 40 = true ∧ xsp sp = true := by
  unfold mTold at hr
  by_cases hs : rSheet srt s = 0
  · rw [if_pos hs] at hr
    by_cases hh : xin h 0 (nI hc - 1) = true
    · rw [if_pos hh] at hr
      by_cases hn : xin n (-40) 40 = true ∧ xsp sp = true
      · have ht : rTold hc srt s h = 0 := by rw [rTold, if_pos hs, if_pos hh]
        obtain ⟨q, i, a, b, c, d, -⟩ := rTold_ok h5 ht
        exact ⟨q, i, a, b, c, d, ht, hn.1, hn.2⟩
      · rw [if_neg hn] at hr
        exact absurd hr (by decide)
    · rw [if_neg hh] at hr
      exact absurd hr (by decide)
  · rw [if_neg hs] at hr
    exact absurd hr hs
theorem mTold_eq (hc : Nat) (srt : Nat → Int32) (s h n sp : Int32) : mTold hc srt s h n sp = if rTold hc srt s h = 0 then (if xin n (-40) 40 = true ∧ xsp sp = true then 0 else -7) else rTold hc srt s h := by
  unfold mTold rTold
  by_cases hs : rSheet srt s = 0
  · simp only [if_pos hs]
    by_cases hh : xin h 0 (nI hc - 1) = true
    · simp only [if_pos hh, if_true]
    · simp only [if_neg hh]
      rw [if_neg (show ¬ (-5 : Int32) = 0 by decide)]
  · simp only [if_neg hs]
theorem judge_no {hc : Nat} {L : xSay} {R : Nat → Nat → Int32} {srt : Nat → Int32} {sz : Nat → Nat} {cl : Nat → Nat → Int32} {s h n sp : Int32} (c : ¬ mTold hc srt s h n sp = 0) : mTold hc srt s h n sp = aJudge hc L R srt sz cl s h n sp := by
  rw [mTold_eq] at c ⊢
  unfold aJudge
  by_cases hz : rTold hc srt s h = 0
  · rw [if_pos hz] at c ⊢
    rw [if_pos hz]
    by_cases hn : xin n (-40) 40 = true ∧ xsp sp = true
    · rw [if_pos hn] at c
      exact absurd rfl c
    · rw [if_neg hn, if_neg hn]
  · rw [if_neg hz, if_neg hz]
theorem c_Model_judge (l : Launch) (G : xG) {d : Nat} (nn : Nat) (hd : 10 ≤ d) (I : xI) (hc tc ln : Nat) (SS : Nat → xSay) (hK0 : mOK I hc tc ln SS) (sz : Nat → Nat) (hsz : msOK I sz) (s h n sp : Int32) : XM l G d y_Model_judge b_Model_judge 6 (some .int) 0 0 xK0 [.ref (xg G 59), .int s, .int h, .int n, .int sp] nn (xm G xYf I) (some (.int (aJudge hc (SS ln) (mRow I) (I 67) sz (fun q k => I 69 (40 * q + k)) s h n sp))) nn (xm G xYf (if mTold hc (I 67) s h n sp = 0 then xup I 59 (sc (I 59) (sFO (SS ln) (sp - sp / 10 * 10) (fun k => I 69 (40 * s.toNatClampNeg + k)) (sz s.toNatClampNeg) 0 (hSpin (SS ln) n (sp / 10) (hStd (mRow I h.toNatClampNeg)))).2 (mFO (SS ln) (sp - sp / 10 * 10) (fun k => I 69 (40 * s.toNatClampNeg + k)) (sz s.toNatClampNeg) 0 (hSpin (SS ln) n (sp / 10) (hStd (mRow I h.toNatClampNeg))) (-1))) else I)) := by
  obtain ⟨⟨h0, h5⟩, ⟨h8, h6⟩, ⟨h9, hl⟩, hTs, hR⟩ := id hK0
  have hK : mK I ln (SS ln) := ⟨hTs ln hl, h9, by omega⟩
  generalize hSS : SS ln = S at hK ⊢
  refine XM.of (by decide) (Nat.le_of_ble_eq_true rfl) (L := [(0, .ref (xg G 59)), (1, .int s), (2, .int h), (3, .int n), (4, .int sp)]) rfl ?_
  refine X_aload_n d_Model_judge_0 rfl rfl ?_
  refine X_iload_n d_Model_judge_1 rfl rfl ?_
  refine X_iload_n d_Model_judge_2 rfl rfl ?_
  refine X_iload_n d_Model_judge_3 rfl rfl ?_
  refine X_iload d_Model_judge_4 rfl ?_
  refine X_callV (v := .int (mTold hc (I 67) s h n sp)) (rest := []) (c_Model_toldWrong l G nn (by omega) I hc tc ln SS hK0 s h n sp) lk_Model_toldWrong ml_Model_237 (xm_obj (show xYf 59 = some sModel from rfl)) rfl rfl (Nat.le_of_ble_eq_true rfl) (xRok (d' := d - 1) (by omega) (by decide)) ⟨Nat.le_refl _, Nat.le_refl _⟩ d_Model_judge_6 rfl ?_
  refine X_istore d_Model_judge_9 (by decide) [1, 2, 3, 4, 5, 0] (L' := [(0, .ref (xg G 59)), (1, .int s), (2, .int h), (3, .int n), (4, .int sp), (5, .int (mTold hc (I 67) s h n sp))]) rfl ?_
  refine X_iload d_Model_judge_11 rfl ?_
  refine X_if_ne (tgt := 28) d_Model_judge_13 (by decide) (fun c_1 => ?_) (fun c_1 => ?_)
  ·
    refine X_iload d_Model_judge_28 rfl ?_
    exact X_iret rfl (congrArg (fun q => some (Value.int q)) (by exact (judge_no c_1).symm)) (xle_of (congrArg (xm G xYf) (by rw [if_neg c_1]))) d_Model_judge_30
  ·
    obtain ⟨q, i, hq, hi, rfl, rfl, ht, hn, hsp⟩ := mTold_ok h5 c_1
    refine X_aload_n d_Model_judge_16 rfl rfl ?_
    refine X_iload_n d_Model_judge_17 rfl rfl ?_
    refine X_iload_n d_Model_judge_18 rfl rfl ?_
    refine X_iload_n d_Model_judge_19 rfl rfl ?_
    refine X_iload d_Model_judge_20 rfl ?_
    refine X_callV (v := .int ((sFO S (sp - sp / 10 * 10) (fun k => I 69 (40 * q + k)) (sz q) 0 (hSpin S n (sp / 10) (hStd (mRow I i)))).1)) (rest := []) (by have q0 := c_Model_unlike l G nn (d := d - 1) (by omega) I i (by omega) (mCur I) (I 59 33) ln q S hK hq n sp (sz q) (hsz q hq).2 (hsz q hq).1 (hR i (by omega)).1 (xin_abs hn) (xin_abs2 hn) (xsp_s hsp); rw [sc_self] at q0; exact q0) lk_Model_unlike ml_Model_240 (xm_obj (show xYf 59 = some sModel from rfl)) rfl rfl (Nat.le_of_ble_eq_true rfl) (xRok (d' := d - 1) (by omega) (by decide)) ⟨Nat.le_refl _, Nat.le_refl _⟩ d_Model_judge_22 rfl ?_
    refine X_goto (tgt := 30) d_Model_judge_25 (by decide) ?_
    exact X_iret rfl (congrArg (fun q => some (Value.int q)) (by subst hSS; first | (simp [aJudge, c_1, ht, hn, hsp, nI_cl (show q < 2 ^ 31 by omega), nI_cl (show i < 2 ^ 31 by omega), xl_1_0, xl_1_1, xl_2_0, xl_2_1, xl_2_2, xl_3_0, xl_3_1, xl_3_2, xl_3_3]; done) | (exfalso; simp_all; done) | (clear hTs hR hK0 hK; simp_all [aJudge, nI_cl (show q < 2 ^ 31 by omega), nI_cl (show i < 2 ^ 31 by omega)]; done))) (xle_of (congrArg (xm G xYf) (by first | (subst hSS; simp [c_1, ht, hn, hsp, nI_cl (show q < 2 ^ 31 by omega), nI_cl (show i < 2 ^ 31 by omega)]; done) | (exfalso; simp_all; done)))) d_Model_judge_30
