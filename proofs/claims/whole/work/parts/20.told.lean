theorem shGet_at {J : xI} {s n i : Nat} {v : Int32} (h2 : J s 2 = nI n) (hi : i < n) (hn : n ≤ 40) (hv : J (s + 1) i = v) : shGet J s (nI i) = v := by
  have h : shHas (J s) (nI i) = true := by
    simp only [shHas, h2, Bool.and_eq_true, decide_eq_true_eq]
    exact ⟨⟨nI_pos' (by omega), nI_lt hi (by omega)⟩, show nI i < nI 40 from nI_lt (by omega) (by decide)⟩
  rw [shGet, if_pos h, nI_cl (by omega), hv]
theorem k_Sheet_get (l : Launch) (G : xG) {d : Nat} (nn : Nat) (Y : xY) (I : xI) (hd : 2 ≤ d) (s : Nat) (hs : Y s = some (sSheet s)) (hs1 : Y (s + 1) = some (sInts 40)) (i v : Int32) (hv : shGet I s i = v) : XM l G d y_Sheet_get b_Sheet_get 2 (some .int) 0 0 xK0 [.ref (xg G s), .int i] nn (xm G Y I) (some (.int v)) nn (xm G Y I) := by
  subst hv
  exact c_Sheet_get l G nn Y I hd s hs hs1 i
theorem k_Sheet_isMissing (l : Launch) (G : xG) {d : Nat} (nn : Nat) (Y : xY) (I : xI) (hd : 1 ≤ d) (s : Nat) (hs : Y s = some (sSheet s)) (hs1 : Y (s + 1) = some (sInts 40)) (v : Int32) (hv : I s 1 = v) : XM l G d y_Sheet_isMissing b_Sheet_isMissing 1 (some .boolean) 0 0 xK0 [.ref (xg G s)] nn (xm G Y I) (some (.int (xb (decide (v = -1))))) nn (xm G Y I) := by
  subst hv
  exact c_Sheet_isMissing l G nn Y I hd s hs hs1
def sOK (I : xI) (sz : Nat → Nat) : Prop := ∀ q, q < 4 → I (51 + 2 * q) 2 = nI (sz q) ∧ sz q ≤ 40
def rSheet (srt : Nat → Int32) (s : Int32) : Int32 := if xin s 0 3 = true then (if srt s.toNatClampNeg = -1 then -11 else 0) else -2
def rTold (hc : Nat) (srt : Nat → Int32) (s h : Int32) : Int32 := if rSheet srt s = 0 then (if xin h 0 (nI hc - 1) = true then 0 else -5) else rSheet srt s
theorem rSheet_ok {srt : Nat → Int32} {s : Int32} (h : rSheet srt s = 0) : ∃ q, q < 4 ∧ s = nI q ∧ ¬ srt q = -1 := by
  unfold rSheet at h
  by_cases hs : xin s 0 3 = true
  · rw [if_pos hs] at h
    obtain ⟨q, hq, rfl⟩ := cTop (n := 3) (by decide) hs
    rw [nI_cl (by omega)] at h
    refine ⟨q, by omega, rfl, fun hb => ?_⟩
    rw [if_pos hb] at h
    exact absurd h (by decide)
  · rw [if_neg hs] at h
    exact absurd h (by decide)
theorem rTold_ok {hc : Nat} (h5 : hc ≤ 5) {srt : Nat → Int32} {s h : Int32} (hr : rTold hc srt s h = 0) : ∃ q i, q < 4 ∧ i < hc ∧ s = nI q ∧ h = nI i ∧ ¬ srt q = -1 := by
  unfold rTold at hr
  by_cases hs : rSheet srt s = 0
  · rw [if_pos hs] at hr
    obtain ⟨q, hq, e, hb⟩ := rSheet_ok hs
    by_cases hh : xin h 0 (nI hc - 1) = true
    · obtain ⟨i, hi, e2⟩ := cHead h5 hh
      exact ⟨q, i, hq, hi, e, e2, hb⟩
    · rw [if_neg hh] at hr; exact absurd hr (by decide)
  · rw [if_neg hs] at hr; exact absurd hr hs
theorem c_X_refusalOfSheet (l : Launch) (G : xG) {d : Nat} (nn : Nat) (I : xI) (hd : 4 ≤ d) (hc tc ln : Nat) (S : Nat → xSay) (hK : cOK I hc tc ln S) (s : Int32) : XM l G d y_X_refusalOfSheet b_X_refusalOfSheet 2 (some .int) 0 0 xK0 [.ref (xg G 0), .int s] nn (xm G xYf I) (some (.int (rSheet (fun q => I (51 + 2 * q) 1) s))) nn (xm G xYf (I)) := by
  obtain ⟨⟨h10, h5⟩, ⟨h11, h6⟩, ⟨h12, hl⟩, hTs, hR⟩ := id hK
  refine XM.of (by decide) (Nat.le_of_ble_eq_true rfl) (L := [(0, .ref (xg G 0)), (1, .int s)]) rfl ?_
  refine X_iload_n d_X_refusalOfSheet_0 rfl rfl ?_
  refine X_callS (v := .int (xb (xin s 0 3))) (rest := []) (c_X_isSheet l G nn _ (by omega) s) lk_X_isSheet ml_X_267 rfl (Nat.le_of_ble_eq_true rfl) (xRok (d' := d - 1) (by omega) (by decide)) ⟨Nat.le_refl _, Nat.le_refl _⟩ d_X_refusalOfSheet_1 rfl ?_
  refine X_ifb_ne (tgt := 10) d_X_refusalOfSheet_4 (by decide) (fun c_1 => ?_) (fun c_1 => ?_)
  ·
    obtain ⟨q, hq, rfl⟩ := cTop (n := 3) (by decide) c_1
    refine X_aload_n d_X_refusalOfSheet_10 rfl rfl ?_
    refine X_iload_n d_X_refusalOfSheet_11 rfl rfl ?_
    refine X_callV (v := .ref (xg G (51 + 2 * q))) (rest := []) (c_X_sheetAt l G nn xYf I (by omega) xYok_f q (by omega)) lk_X_sheetAt ml_X_256 (xm_obj (y0 xYok_f)) rfl rfl (Nat.le_of_ble_eq_true rfl) (xRok (d' := d - 1) (by omega) (by decide)) ⟨Nat.le_refl _, Nat.le_refl _⟩ d_X_refusalOfSheet_12 rfl ?_
    refine X_callV (v := .int (xb (decide (I (51 + 2 * q) 1 = -1)))) (rest := []) (k_Sheet_isMissing l G nn xYf I (by omega) (51 + 2 * q) (yS xYok_f (show q < 4 by omega)).1 (yS xYok_f (show q < 4 by omega)).2 (I (51 + 2 * q) 1) (rfl)) lk_Sheet_isMissing ml_X_298 (xm_obj (yS xYok_f (show q < 4 by omega)).1) rfl rfl (Nat.le_of_ble_eq_true rfl) (xRok (d' := d - 1) (by omega) (by decide)) ⟨Nat.le_refl _, Nat.le_refl _⟩ d_X_refusalOfSheet_15 rfl ?_
    refine X_ifb_eq (tgt := 26) d_X_refusalOfSheet_18 (by decide) (fun c_2 => ?_) (fun c_2 => ?_)
    ·
      refine X_iconst (v := 0) d_X_refusalOfSheet_26 rfl ?_
      exact X_iret rfl (congrArg (fun q => some (Value.int q)) (by first | (simp [rSheet, c_1, nI_cl (show q < 2 ^ 31 by omega), c_2, xl_1_0, xl_1_1, xl_2_0, xl_2_1, xl_2_2, xl_3_0, xl_3_1, xl_3_2, xl_3_3]; done) | (exfalso; simp_all; done) | (clear hTs hR hK; simp_all [rSheet, nI_cl (show q < 2 ^ 31 by omega)]; done))) (xle_rf _) d_X_refusalOfSheet_27
    ·
      refine X_bipush (v := -11) d_X_refusalOfSheet_21 rfl ?_
      refine X_goto (tgt := 27) d_X_refusalOfSheet_23 (by decide) ?_
      exact X_iret rfl (congrArg (fun q => some (Value.int q)) (by first | (simp [rSheet, c_1, nI_cl (show q < 2 ^ 31 by omega), c_2, xl_1_0, xl_1_1, xl_2_0, xl_2_1, xl_2_2, xl_3_0, xl_3_1, xl_3_2, xl_3_3]; done) | (exfalso; simp_all; done) | (clear hTs hR hK; simp_all [rSheet, nI_cl (show q < 2 ^ 31 by omega)]; done))) (xle_rf _) d_X_refusalOfSheet_27
  ·
    refine X_bipush (v := -2) d_X_refusalOfSheet_7 rfl ?_
    exact X_iret rfl (congrArg (fun q => some (Value.int q)) (by first | (simp [rSheet, c_1, xl_1_0, xl_1_1, xl_2_0, xl_2_1, xl_2_2, xl_3_0, xl_3_1, xl_3_2, xl_3_3]; done) | (exfalso; simp_all; done) | (clear hTs hR hK; simp_all [rSheet]; done))) (xle_rf _) d_X_refusalOfSheet_9
theorem c_X_refusalOfTold (l : Launch) (G : xG) {d : Nat} (nn : Nat) (I : xI) (hd : 5 ≤ d) (hc tc ln : Nat) (S : Nat → xSay) (hK : cOK I hc tc ln S) (s h : Int32) : XM l G d y_X_refusalOfTold b_X_refusalOfTold 4 (some .int) 0 0 xK0 [.ref (xg G 0), .int s, .int h] nn (xm G xYf I) (some (.int (rTold hc (fun q => I (51 + 2 * q) 1) s h))) nn (xm G xYf (I)) := by
  obtain ⟨⟨h10, h5⟩, ⟨h11, h6⟩, ⟨h12, hl⟩, hTs, hR⟩ := id hK
  refine XM.of (by decide) (Nat.le_of_ble_eq_true rfl) (L := [(0, .ref (xg G 0)), (1, .int s), (2, .int h)]) rfl ?_
  refine X_aload_n d_X_refusalOfTold_0 rfl rfl ?_
  refine X_iload_n d_X_refusalOfTold_1 rfl rfl ?_
  refine X_callV (v := .int (rSheet (fun q => I (51 + 2 * q) 1) s)) (rest := []) (c_X_refusalOfSheet l G nn I (by omega) hc tc ln S hK s) lk_X_refusalOfSheet ml_X_264 (xm_obj (y0 xYok_f)) rfl rfl (Nat.le_of_ble_eq_true rfl) (xRok (d' := d - 1) (by omega) (by decide)) ⟨Nat.le_refl _, Nat.le_refl _⟩ d_X_refusalOfTold_2 rfl ?_
  refine X_istore_n d_X_refusalOfTold_5 rfl (by decide) [1, 2, 3, 0] (L' := [(0, .ref (xg G 0)), (1, .int s), (2, .int h), (3, .int (rSheet (fun q => I (51 + 2 * q) 1) s))]) rfl ?_
  refine X_iload_n d_X_refusalOfTold_6 rfl rfl ?_
  refine X_if_ne (tgt := 18) d_X_refusalOfTold_7 (by decide) (fun c_1 => ?_) (fun c_1 => ?_)
  ·
    refine X_iload_n d_X_refusalOfTold_18 rfl rfl ?_
    refine X_goto (tgt := 24) d_X_refusalOfTold_19 (by decide) ?_
    exact X_iret rfl (congrArg (fun q => some (Value.int q)) (by first | (simp [rTold, c_1, xl_1_0, xl_1_1, xl_2_0, xl_2_1, xl_2_2, xl_3_0, xl_3_1, xl_3_2, xl_3_3]; done) | (exfalso; simp_all; done) | (clear hTs hR hK; simp_all [rTold]; done))) (xle_rf _) d_X_refusalOfTold_24
  ·
    refine X_aload_n d_X_refusalOfTold_10 rfl rfl ?_
    refine X_iload_n d_X_refusalOfTold_11 rfl rfl ?_
    refine X_callV (v := .int (xb (xin h 0 (nI hc - 1)))) (rest := []) (c_X_isHead l G nn xYf I (by omega) xYok_f h (nI hc) (h10)) lk_X_isHead ml_X_113 (xm_obj (y0 xYok_f)) rfl rfl (Nat.le_of_ble_eq_true rfl) (xRok (d' := d - 1) (by omega) (by decide)) ⟨Nat.le_refl _, Nat.le_refl _⟩ d_X_refusalOfTold_12 rfl ?_
    refine X_ifb_eq (tgt := 22) d_X_refusalOfTold_15 (by decide) (fun c_2 => ?_) (fun c_2 => ?_)
    ·
      refine X_bipush (v := -5) d_X_refusalOfTold_22 rfl ?_
      exact X_iret rfl (congrArg (fun q => some (Value.int q)) (by first | (simp [rTold, c_1, c_2, xl_1_0, xl_1_1, xl_2_0, xl_2_1, xl_2_2, xl_3_0, xl_3_1, xl_3_2, xl_3_3]; done) | (exfalso; simp_all; done) | (clear hTs hR hK; simp_all [rTold]; done))) (xle_rf _) d_X_refusalOfTold_24
    ·
      obtain ⟨i, hi, rfl⟩ := cHead h5 c_2
      refine X_iload_n d_X_refusalOfTold_18 rfl rfl ?_
      refine X_goto (tgt := 24) d_X_refusalOfTold_19 (by decide) ?_
      exact X_iret rfl (congrArg (fun q => some (Value.int q)) (by first | (simp [rTold, c_1, c_2, nI_cl (show i < 2 ^ 31 by omega), xl_1_0, xl_1_1, xl_2_0, xl_2_1, xl_2_2, xl_3_0, xl_3_1, xl_3_2, xl_3_3]; done) | (exfalso; simp_all; done) | (clear hTs hR hK; simp_all [rTold, nI_cl (show i < 2 ^ 31 by omega)]; done))) (xle_rf _) d_X_refusalOfTold_24
def sFO (L : xSay) (pace : Int32) (g : Nat → Int32) : Nat → Nat → (Nat → Int32) → Int32 × (Nat → Int32)
  | 0, _, f => (-1, f)
  | k + 1, i, f => if g i = hStep L pace 1 f 6 then sFO L pace g k (i + 1) (hStep L pace 1 f) else (nI i, hStep L pace 1 f)
theorem hOK_FO (L : xSay) (pace : Int32) (g : Nat → Int32) : ∀ (k i : Nat) {f : Nat → Int32}, hOK f → hOK (sFO L pace g k i f).2
  | 0, _, _, h => h
  | k + 1, i, f, h => by
    rw [sFO]
    split
    · exact hOK_FO L pace g k (i + 1) (hOK_step L pace 1 h)
    · exact hOK_step L pace 1 h
def Q_X_firstOtherwise (l : Launch) (G : xG) (d nn : Nat) (Y : xY) (I : xI) (q t : Nat) (pace r : Int32) (F : Nat → Int32) (i : Nat) (f : Nat → Int32) : Prop := XW l G (xR d 0 0) y_X_firstOtherwise b_X_firstOtherwise 5 (some .int) xK0 (xZ G nn (xm G Y (xup I 3 F)) (some (.int r)) 0 0) nn (xm G Y (xup I 3 f)) 0 0 3 [(0, .ref (xg G 0)), (1, .ref (xg G (51 + 2 * q))), (2, .ref (xg G t)), (3, .int pace), (4, .int (nI i))] []
theorem w_X_firstOtherwise (l : Launch) (G : xG) {d : Nat} (nn : Nat) (Y : xY) (I : xI) (hd : 8 ≤ d) (hY : xYok Y) (h3 : Y 3 = some sHead) (q t : Nat) (hq : q < 4) (n : Nat) (hn : I (51 + 2 * q) 2 = nI n) (hn4 : n ≤ 40) (S : xSay) (hT : xTx Y I t S) (pace r : Int32) (F : Nat → Int32) : ∀ (k i : Nat) (f : Nat → Int32), i + k = n → r = (sFO S pace (I (51 + 2 * q + 1)) k i f).1 → F = (sFO S pace (I (51 + 2 * q + 1)) k i f).2 → Q_X_firstOtherwise l G d nn Y I q t pace r F i f := by
  intro k
  induction k with
  | zero =>
    intro i f hk hr hF
    unfold Q_X_firstOtherwise
    refine X_iload d_X_firstOtherwise_3 rfl ?_
    refine X_aload_n d_X_firstOtherwise_5 rfl rfl ?_
    refine X_getI (v := nI n) fg_X_333 (yS hY (show q < 4 by omega)).1 rfl ((congrFun (xup_n _ _ (by omega)) _).trans (hn)) d_X_firstOtherwise_6 ?_
    refine X_icmp_ge (tgt := 47) d_X_firstOtherwise_9 (by decide) (fun _ => ?_) (fun c_1 => absurd c_1 (not_not_intro (show nI n ≤ nI i from nI_le (by omega) (by omega))))
    refine X_iconst (v := -1) d_X_firstOtherwise_47 rfl ?_
    exact X_iret rfl (congrArg (fun q => some (Value.int q)) (by rw [hr]; simp [sFO])) (xle_of (congrArg (fun z => xm G Y (xup I 3 z)) (by rw [hF]; simp [sFO]))) d_X_firstOtherwise_48
  | succ k ih =>
    intro i f hk hr hF
    unfold Q_X_firstOtherwise
    refine X_iload d_X_firstOtherwise_3 rfl ?_
    refine X_aload_n d_X_firstOtherwise_5 rfl rfl ?_
    refine X_getI (v := nI n) fg_X_333 (yS hY (show q < 4 by omega)).1 rfl ((congrFun (xup_n _ _ (by omega)) _).trans (hn)) d_X_firstOtherwise_6 ?_
    refine X_icmp_ge (tgt := 47) d_X_firstOtherwise_9 (by decide) (fun c_1 => absurd c_1 (show ¬ nI n ≤ nI i from nI_ge (by omega) (by omega))) (fun _ => ?_)
    refine X_aload_n d_X_firstOtherwise_12 rfl rfl ?_
    refine X_getR (r := 3) fg_X_19 (y0 hY) rfl d_X_firstOtherwise_13 ?_
    refine X_aload_n d_X_firstOtherwise_16 rfl rfl ?_
    refine X_iload_n d_X_firstOtherwise_17 rfl rfl ?_
    refine X_iconst (v := 1) d_X_firstOtherwise_18 rfl ?_
    refine X_callVv (rest := []) (k_Head_step l G nn Y (xup I 3 f) (by omega) 3 h3 t S (xTx_up hT h3) pace 1 f (xup_s _ _ _)) lk_Head_step ml_X_271 (xm_obj h3) rfl rfl (Nat.le_of_ble_eq_true rfl) (xRok (d' := d - 1) (by omega) (by decide)) ⟨Nat.le_refl _, Nat.le_refl _⟩ d_X_firstOtherwise_19 rfl ?_
    rw [xup_up]
    refine X_aload_n d_X_firstOtherwise_22 rfl rfl ?_
    refine X_iload d_X_firstOtherwise_23 rfl ?_
    refine X_callV (v := .int (I (51 + 2 * q + 1) i)) (rest := []) (k_Sheet_get l G nn Y (xup I 3 (hStep S pace 1 f)) (by omega) (51 + 2 * q) (yS hY (show q < 4 by omega)).1 (yS hY (show q < 4 by omega)).2 (nI i) (I (51 + 2 * q + 1) i) (shGet_at ((congrFun (xup_n _ _ (by omega)) _).trans (hn)) (by omega) (by omega) (congrFun (xup_n _ _ (by omega)) _))) lk_Sheet_get ml_X_316 (xm_obj (yS hY (show q < 4 by omega)).1) rfl rfl (Nat.le_of_ble_eq_true rfl) (xRok (d' := d - 1) (by omega) (by decide)) ⟨Nat.le_refl _, Nat.le_refl _⟩ d_X_firstOtherwise_25 rfl ?_
    refine X_aload_n d_X_firstOtherwise_28 rfl rfl ?_
    refine X_getR (r := 3) fg_X_19 (y0 hY) rfl d_X_firstOtherwise_29 ?_
    refine X_getI (v := (hStep S pace 1 f) 6) fg_X_159 h3 rfl (congrFun (xup_s _ _ _) _) d_X_firstOtherwise_32 ?_
    refine X_icmp_eq (tgt := 41) d_X_firstOtherwise_35 (by decide) (fun c_2 => ?_) (fun c_2 => ?_)
    ·
      refine X_iinc d_X_firstOtherwise_41 rfl (v := (nI i) + 1) rfl (by decide) [1, 2, 3, 4, 0] (L' := [(0, .ref (xg G 0)), (1, .ref (xg G (51 + 2 * q))), (2, .ref (xg G t)), (3, .int pace), (4, .int ((nI i) + 1))]) rfl ?_
      refine X_goto (tgt := 3) d_X_firstOtherwise_44 (by decide) ?_
      simp only [nI_1]
      exact ih (i + 1) _ (by omega) (by rw [hr]; simp [sFO, c_2]) (by rw [hF]; simp [sFO, c_2])
    ·
      refine X_iload d_X_firstOtherwise_38 rfl ?_
      exact X_iret rfl (congrArg (fun q => some (Value.int q)) (by rw [hr]; simp [sFO, c_2])) (xle_of (congrArg (fun z => xm G Y (xup I 3 z)) (by rw [hF]; simp [sFO, c_2]))) d_X_firstOtherwise_40
theorem k_X_firstOtherwise (l : Launch) (G : xG) {d : Nat} (nn : Nat) (Y : xY) (I : xI) (hd : 8 ≤ d) (hY : xYok Y) (h3 : Y 3 = some sHead) (q t : Nat) (hq : q < 4) (n : Nat) (hn : I (51 + 2 * q) 2 = nI n) (hn4 : n ≤ 40) (S : xSay) (hT : xTx Y I t S) (pace : Int32) (f g : Nat → Int32) (hf : I 3 = f) (hg : I (51 + 2 * q + 1) = g) : XM l G d y_X_firstOtherwise b_X_firstOtherwise 5 (some .int) 0 0 xK0 [.ref (xg G 0), .ref (xg G (51 + 2 * q)), .ref (xg G t), .int pace] nn (xm G Y I) (some (.int (sFO S pace g n 0 f).1)) nn (xm G Y (xup I 3 (sFO S pace g n 0 f).2)) := by
  subst hg
  subst hf
  have hq0 := w_X_firstOtherwise l G nn Y I hd hY h3 q t hq n hn hn4 S hT pace _ _ n 0 (I 3) (by omega) rfl rfl
  unfold Q_X_firstOtherwise at hq0
  rw [xup_self] at hq0
  refine XM.of (by decide) (Nat.le_of_ble_eq_true rfl) (L := [(0, .ref (xg G 0)), (1, .ref (xg G (51 + 2 * q))), (2, .ref (xg G t)), (3, .int pace)]) rfl ?_
  refine X_iconst (v := 0) d_X_firstOtherwise_0 rfl ?_
  refine X_istore d_X_firstOtherwise_1 (by decide) [1, 2, 3, 4, 0] (L' := [(0, .ref (xg G 0)), (1, .ref (xg G (51 + 2 * q))), (2, .ref (xg G t)), (3, .int pace), (4, .int 0)]) rfl ?_
  exact hq0
def aJudge (hc : Nat) (L : xSay) (R : Nat → Nat → Int32) (srt : Nat → Int32) (sz : Nat → Nat) (cl : Nat → Nat → Int32) (s h n sp : Int32) : Int32 := if rTold hc srt s h = 0 then (if xin n (-40) 40 = true ∧ xsp sp = true then (sFO L (sp - sp / 10 * 10) (cl s.toNatClampNeg) (sz s.toNatClampNeg) 0 (hSpin L n (sp / 10) (hStd (R h.toNatClampNeg)))).1 else -7) else rTold hc srt s h

