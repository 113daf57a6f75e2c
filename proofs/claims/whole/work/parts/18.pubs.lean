-- what is answered: hc HEADS, tc TEXTS, ln THE LAW that says L, R a HEAD's numbers
def aCount (hc tc ln : Nat) (tp what : Int32) : Int32 := if what = 0 then nI hc else if what = 1 then nI tc else if what = 2 then nI ln else if what = 3 then tp else -2
def aForce (tc ln : Nat) (t : Int32) : Int32 := if xin t 0 (nI tc - 1) = true then nI ln else -2
def aAsks (hc : Nat) (L : xSay) (R : Nat → Nat → Int32) (part h se : Int32) : Int32 := if xin part 0 2 = true ∧ xin h 0 (nI hc - 1) = true ∧ xnum se 0 = true then L part (se / 10) (se - se / 10 * 10) (R h.toNatClampNeg) else -2
def aTold (hc : Nat) (R : Nat → Nat → Int32) (h what : Int32) : Int32 := if xin h 0 (nI hc - 1) = true then (if what = 0 then R h.toNatClampNeg 0 else if what = 1 then R h.toNatClampNeg 1 else if what = 2 then R h.toNatClampNeg 2 else if what = 3 then R h.toNatClampNeg 3 else if what = 4 then R h.toNatClampNeg 4 else if what = 5 then R h.toNatClampNeg 5 else if what = 6 then R h.toNatClampNeg 6 else if what = 7 then R h.toNatClampNeg 7 else if what = 8 then kFalls (R h.toNatClampNeg 0) (R h.toNatClampNeg 1) else -100007) else -100005
def aSet (hc : Nat) (R : Nat → Nat → Int32) (h what v : Int32) : Int32 := if xin h 0 (nI hc - 1) = true then (if what = 0 ∧ xin v (-9999) 9999 = true then R h.toNatClampNeg 2 else if what = 1 ∧ xin v 0 9 = true then R h.toNatClampNeg 3 else if what = 2 ∧ xin v 0 99 = true then R h.toNatClampNeg 4 else -100007) else -100005
def aHead (hc : Nat) (kind more : Int32) : Int32 := if xin kind 0 5 = true ∧ xin more 0 9 = true then (if 5 ≤ hc then -4 else nI hc) else -2
def okTurn (hc : Nat) (h n sp : Int32) : Bool := xin h 0 (nI hc - 1) && xin n (-40) 40 && xin sp 1 9
def rTurn (L : xSay) (n sp : Int32) (f : Nat → Int32) : Nat → Int32 := xup (hSpin L n sp f) 4 (if 99 < hSpin L n sp f 4 + 1 then 99 else hSpin L n sp f 4 + 1)
def aTurn (hc : Nat) (L : xSay) (R : Nat → Nat → Int32) (h n sp : Int32) : Int32 := if xin h 0 (nI hc - 1) = true then (if xin n (-40) 40 = true ∧ xin sp 1 9 = true then hSpin L n sp (R h.toNatClampNeg) 2 else -100007) else -100005
def aRest (hc : Nat) (L : xSay) (R : Nat → Nat → Int32) (h sec eyes : Int32) : Int32 := if xin h 0 (nI hc - 1) = true then (if xin sec 0 60 = true ∧ xin eyes 0 1 = true then hLing L eyes sec.toNatClampNeg (R h.toNatClampNeg) 2 else -100007) else -100005
def aWalk (hc : Nat) (L : xSay) (R : Nat → Nat → Int32) (h sec pe : Int32) : Int32 := if xin h 0 (nI hc - 1) = true then (if xin sec 0 60 = true ∧ xnum pe 1 = true then hGo L (pe / 10) (pe - pe / 10 * 10) sec.toNatClampNeg (R h.toNatClampNeg) 6 else -100007) else -100005
def aUp (hc : Nat) (R : Nat → Nat → Int32) (h : Int32) : Int32 := if xin h 0 (nI hc - 1) = true then R h.toNatClampNeg 6 else -100005
def tTry (L : xSay) (n sp w : Int32) (f : Nat → Int32) : Nat → Int32 := hLing L 1 w.toNatClampNeg (hSpin L n sp (hStd f))
def aEnds (hc : Nat) (L : xSay) (R : Nat → Nat → Int32) (h n wsp sec what : Int32) : Int32 := if xin h 0 (nI hc - 1) = true then (if xin n (-40) 40 = true ∧ xwsp wsp = true ∧ xin sec 0 60 = true ∧ xin what 0 3 = true then (if what = 0 then hGo L (wsp - wsp / 10 * 10) 1 sec.toNatClampNeg (tTry L n (wsp / 10 - wsp / 10 / 10 * 10) (wsp / 100) (R h.toNatClampNeg)) 2 else if what = 1 then hGo L (wsp - wsp / 10 * 10) 1 sec.toNatClampNeg (tTry L n (wsp / 10 - wsp / 10 / 10 * 10) (wsp / 100) (R h.toNatClampNeg)) 6 else if what = 2 then hGo L (wsp - wsp / 10 * 10) 1 sec.toNatClampNeg (tTry L n (wsp / 10 - wsp / 10 / 10 * 10) (wsp / 100) (R h.toNatClampNeg)) 5 else hFall L (wsp - wsp / 10 * 10) 1 sec.toNatClampNeg 0 (tTry L n (wsp / 10 - wsp / 10 / 10 * 10) (wsp / 100) (R h.toNatClampNeg))) else -100007) else -100005
theorem c_X_count (l : Launch) (G : xG) {d : Nat} (nn : Nat) (I : xI) (hd : 1 ≤ d) (hc tc ln : Nat) (S : Nat → xSay) (hK : cOK I hc tc ln S) (what : Int32) : XM l G d y_X_count b_X_count 2 (some .int) 0 0 xK0 [.ref (xg G 0), .int what] nn (xm G xYf I) (some (.int (aCount hc tc ln (I 11 2) what))) nn (xm G xYf (I)) := by
  obtain ⟨⟨h10, h5⟩, ⟨h11, h6⟩, ⟨h12, hl⟩, hTs, hR⟩ := id hK
  refine XM.of (by decide) (Nat.le_of_ble_eq_true rfl) (L := [(0, .ref (xg G 0)), (1, .int what)]) rfl ?_
  refine X_iload_n d_X_count_0 rfl rfl ?_
  by_cases c_1 : what = 0
  ·
    refine X_tableIn (tgt := 32) d_X_count_1 (by rw [c_1]; decide) (by rw [c_1]; decide) (by rw [c_1]; rfl) (by decide) ?_
    refine X_aload_n d_X_count_32 rfl rfl ?_
    refine X_getI (v := nI hc) fg_X_59 (y0 xYok_f) rfl (h10) d_X_count_33 ?_
    exact X_iret rfl (congrArg (fun q => some (Value.int q)) (by first | (simp [aCount, c_1, xl_1_0, xl_1_1, xl_2_0, xl_2_1, xl_2_2, xl_3_0, xl_3_1, xl_3_2, xl_3_3]; done) | (exfalso; simp_all; done) | (clear hTs hR hK; simp_all [aCount]; done))) (xle_rf _) d_X_count_36
  by_cases c_2 : what = 1
  ·
    refine X_tableIn (tgt := 37) d_X_count_1 (by rw [c_2]; decide) (by rw [c_2]; decide) (by rw [c_2]; rfl) (by decide) ?_
    refine X_aload_n d_X_count_37 rfl rfl ?_
    refine X_getI (v := nI tc) fg_X_63 (y0 xYok_f) rfl (h11) d_X_count_38 ?_
    exact X_iret rfl (congrArg (fun q => some (Value.int q)) (by first | (simp [aCount, c_1, c_2, xl_1_0, xl_1_1, xl_2_0, xl_2_1, xl_2_2, xl_3_0, xl_3_1, xl_3_2, xl_3_3]; done) | (exfalso; simp_all; done) | (clear hTs hR hK; simp_all [aCount]; done))) (xle_rf _) d_X_count_41
  by_cases c_3 : what = 2
  ·
    refine X_tableIn (tgt := 42) d_X_count_1 (by rw [c_3]; decide) (by rw [c_3]; decide) (by rw [c_3]; rfl) (by decide) ?_
    refine X_aload_n d_X_count_42 rfl rfl ?_
    refine X_getI (v := nI ln) fg_X_66 (y0 xYok_f) rfl (h12) d_X_count_43 ?_
    exact X_iret rfl (congrArg (fun q => some (Value.int q)) (by first | (simp [aCount, c_1, c_2, c_3, xl_1_0, xl_1_1, xl_2_0, xl_2_1, xl_2_2, xl_3_0, xl_3_1, xl_3_2, xl_3_3]; done) | (exfalso; simp_all; done) | (clear hTs hR hK; simp_all [aCount]; done))) (xle_rf _) d_X_count_46
  by_cases c_4 : what = 3
  ·
    refine X_tableIn (tgt := 47) d_X_count_1 (by rw [c_4]; decide) (by rw [c_4]; decide) (by rw [c_4]; rfl) (by decide) ?_
    refine X_aload_n d_X_count_47 rfl rfl ?_
    refine X_getR (r := 11) fg_X_44 (y0 xYok_f) rfl d_X_count_48 ?_
    refine X_getI (v := I 11 2) fg_X_102 (yA xYok_f (k := 11) rfl (by decide) (by decide) (by decide) (by decide)) rfl (rfl) d_X_count_51 ?_
    exact X_iret rfl (congrArg (fun q => some (Value.int q)) (by first | (simp [aCount, c_1, c_2, c_3, c_4, xl_1_0, xl_1_1, xl_2_0, xl_2_1, xl_2_2, xl_3_0, xl_3_1, xl_3_2, xl_3_3]; done) | (exfalso; simp_all; done) | (clear hTs hR hK; simp_all [aCount]; done))) (xle_rf _) d_X_count_54
  refine X_tableOut (tgt := 55) d_X_count_1 (xtout what (0) (3) (by decide) (by intro q h1 h2; have hq : q = 0 ∨ q = 1 ∨ q = 2 ∨ q = 3 := (by omega); rcases hq with rfl | rfl | rfl | rfl <;> first | exact c_1 | exact c_2 | exact c_3 | exact c_4)) (by decide) ?_
  refine X_bipush (v := -2) d_X_count_55 rfl ?_
  exact X_iret rfl (congrArg (fun q => some (Value.int q)) (by first | (simp [aCount, c_1, c_2, c_3, c_4, xl_1_0, xl_1_1, xl_2_0, xl_2_1, xl_2_2, xl_3_0, xl_3_1, xl_3_2, xl_3_3]; done) | (exfalso; simp_all; done) | (clear hTs hR hK; simp_all [aCount]; done))) (xle_rf _) d_X_count_57
theorem c_X_force (l : Launch) (G : xG) {d : Nat} (nn : Nat) (I : xI) (hd : 2 ≤ d) (hc tc ln : Nat) (S : Nat → xSay) (hK : cOK I hc tc ln S) (t : Int32) : XM l G d y_X_force b_X_force 3 (some .int) 0 0 xK0 [.ref (xg G 0), .int t] nn (xm G xYf I) (some (.int (aForce tc ln t))) nn (xm G xYf (if xin t 0 (nI tc - 1) = true then xw I 0 12 t else I)) := by
  obtain ⟨⟨h10, h5⟩, ⟨h11, h6⟩, ⟨h12, hl⟩, hTs, hR⟩ := id hK
  refine XM.of (by decide) (Nat.le_of_ble_eq_true rfl) (L := [(0, .ref (xg G 0)), (1, .int t)]) rfl ?_
  refine X_iload_n d_X_force_0 rfl rfl ?_
  refine X_iconst (v := 0) d_X_force_1 rfl ?_
  refine X_aload_n d_X_force_2 rfl rfl ?_
  refine X_getI (v := nI tc) fg_X_63 (y0 xYok_f) rfl (h11) d_X_force_3 ?_
  refine X_iconst (v := 1) d_X_force_6 rfl ?_
  refine X_isub d_X_force_7 ?_
  refine X_callS (v := .int (xb (xin t 0 ((nI tc) - 1)))) (rest := []) (c_X_within l G nn _ (by omega) t 0 ((nI tc) - 1)) lk_X_within ml_X_105 rfl (Nat.le_of_ble_eq_true rfl) (xRok (d' := d - 1) (by omega) (by decide)) ⟨Nat.le_refl _, Nat.le_refl _⟩ d_X_force_8 rfl ?_
  refine X_ifb_ne (tgt := 17) d_X_force_11 (by decide) (fun c_1 => ?_) (fun c_1 => ?_)
  ·
    refine X_aload_n d_X_force_17 rfl rfl ?_
    refine X_getI (v := nI ln) fg_X_66 (y0 xYok_f) rfl (h12) d_X_force_18 ?_
    refine X_istore_n d_X_force_21 rfl (by decide) [1, 2, 0] (L' := [(0, .ref (xg G 0)), (1, .int t), (2, .int (nI ln))]) rfl ?_
    refine X_aload_n d_X_force_22 rfl rfl ?_
    refine X_iload_n d_X_force_23 rfl rfl ?_
    refine X_putI fp_X_66 (y0 xYok_f) rfl d_X_force_24 ?_
    refine X_iload_n d_X_force_27 rfl rfl ?_
    exact X_iret rfl (congrArg (fun q => some (Value.int q)) (by first | (simp [aForce, c_1, xl_1_0, xl_1_1, xl_2_0, xl_2_1, xl_2_2, xl_3_0, xl_3_1, xl_3_2, xl_3_3]; done) | (exfalso; simp_all; done) | (clear hTs hR hK; simp_all [aForce]; done))) (xle_of (congrArg (xm G xYf) (by first | (simp [c_1]; done) | (exfalso; simp_all; done)))) d_X_force_28
  ·
    refine X_bipush (v := -2) d_X_force_14 rfl ?_
    exact X_iret rfl (congrArg (fun q => some (Value.int q)) (by first | (simp [aForce, c_1, xl_1_0, xl_1_1, xl_2_0, xl_2_1, xl_2_2, xl_3_0, xl_3_1, xl_3_2, xl_3_3]; done) | (exfalso; simp_all; done) | (clear hTs hR hK; simp_all [aForce]; done))) (xle_of (congrArg (xm G xYf) (by first | (simp [c_1]; done) | (exfalso; simp_all; done)))) d_X_force_16
theorem c_X_told (l : Launch) (G : xG) {d : Nat} (nn : Nat) (I : xI) (hd : 3 ≤ d) (hc tc ln : Nat) (S : Nat → xSay) (hK : cOK I hc tc ln S) (h what : Int32) : XM l G d y_X_told b_X_told 4 (some .int) 0 0 xK0 [.ref (xg G 0), .int h, .int what] nn (xm G xYf I) (some (.int (aTold hc (fun i => I (17 + 2 * i)) h what))) nn (xm G xYf (I)) := by
  obtain ⟨⟨h10, h5⟩, ⟨h11, h6⟩, ⟨h12, hl⟩, hTs, hR⟩ := id hK
  refine XM.of (by decide) (Nat.le_of_ble_eq_true rfl) (L := [(0, .ref (xg G 0)), (1, .int h), (2, .int what)]) rfl ?_
  refine X_aload_n d_X_told_0 rfl rfl ?_
  refine X_iload_n d_X_told_1 rfl rfl ?_
  refine X_callV (v := .int (xb (xin h 0 (nI hc - 1)))) (rest := []) (c_X_isHead l G nn xYf I (by omega) xYok_f h (nI hc) (h10)) lk_X_isHead ml_X_113 (xm_obj (y0 xYok_f)) rfl rfl (Nat.le_of_ble_eq_true rfl) (xRok (d' := d - 1) (by omega) (by decide)) ⟨Nat.le_refl _, Nat.le_refl _⟩ d_X_told_2 rfl ?_
  refine X_ifb_ne (tgt := 11) d_X_told_5 (by decide) (fun c_1 => ?_) (fun c_1 => ?_)
  ·
    obtain ⟨i, hi, rfl⟩ := cHead h5 c_1
    refine X_aload_n d_X_told_11 rfl rfl ?_
    refine X_iload_n d_X_told_12 rfl rfl ?_
    refine X_callV (v := .ref (xg G (17 + 2 * i))) (rest := []) (c_X_headAt l G nn xYf I (by omega) xYok_f i (by omega)) lk_X_headAt ml_X_124 (xm_obj (y0 xYok_f)) rfl rfl (Nat.le_of_ble_eq_true rfl) (xRok (d' := d - 1) (by omega) (by decide)) ⟨Nat.le_refl _, Nat.le_refl _⟩ d_X_told_13 rfl ?_
    refine X_astore_n d_X_told_16 rfl (by decide) [1, 2, 3, 0] (L' := [(0, .ref (xg G 0)), (1, .int (nI i)), (2, .int what), (3, .ref (xg G (17 + 2 * i)))]) rfl ?_
    refine X_iload_n d_X_told_17 rfl rfl ?_
    by_cases c_2 : what = 0
    ·
      refine X_tableIn (tgt := 68) d_X_told_18 (by rw [c_2]; decide) (by rw [c_2]; decide) (by rw [c_2]; rfl) (by decide) ?_
      refine X_aload_n d_X_told_68 rfl rfl ?_
      refine X_getI (v := I (17 + 2 * i) 0) fg_X_150 (yH xYok_f (show i < 5 by omega)) rfl (rfl) d_X_told_69 ?_
      exact X_iret rfl (congrArg (fun q => some (Value.int q)) (by first | (simp [aTold, c_1, nI_cl (show i < 2 ^ 31 by omega), c_2, xl_1_0, xl_1_1, xl_2_0, xl_2_1, xl_2_2, xl_3_0, xl_3_1, xl_3_2, xl_3_3]; done) | (rcases (hR i (by omega)).1 with q | q <;> simp_all [aTold, nI_cl (show i < 2 ^ 31 by omega)]) | (clear hTs hR hK; simp_all [aTold, nI_cl (show i < 2 ^ 31 by omega)]; done))) (xle_rf _) d_X_told_72
    by_cases c_3 : what = 1
    ·
      refine X_tableIn (tgt := 73) d_X_told_18 (by rw [c_3]; decide) (by rw [c_3]; decide) (by rw [c_3]; rfl) (by decide) ?_
      refine X_aload_n d_X_told_73 rfl rfl ?_
      refine X_getI (v := I (17 + 2 * i) 1) fg_X_153 (yH xYok_f (show i < 5 by omega)) rfl (rfl) d_X_told_74 ?_
      exact X_iret rfl (congrArg (fun q => some (Value.int q)) (by first | (simp [aTold, c_1, nI_cl (show i < 2 ^ 31 by omega), c_2, c_3, xl_1_0, xl_1_1, xl_2_0, xl_2_1, xl_2_2, xl_3_0, xl_3_1, xl_3_2, xl_3_3]; done) | (rcases (hR i (by omega)).1 with q | q <;> simp_all [aTold, nI_cl (show i < 2 ^ 31 by omega)]) | (clear hTs hR hK; simp_all [aTold, nI_cl (show i < 2 ^ 31 by omega)]; done))) (xle_rf _) d_X_told_77
    by_cases c_4 : what = 2
    ·
      refine X_tableIn (tgt := 78) d_X_told_18 (by rw [c_4]; decide) (by rw [c_4]; decide) (by rw [c_4]; rfl) (by decide) ?_
      refine X_aload_n d_X_told_78 rfl rfl ?_
      refine X_getI (v := I (17 + 2 * i) 2) fg_X_140 (yH xYok_f (show i < 5 by omega)) rfl (rfl) d_X_told_79 ?_
      exact X_iret rfl (congrArg (fun q => some (Value.int q)) (by first | (simp [aTold, c_1, nI_cl (show i < 2 ^ 31 by omega), c_2, c_3, c_4, xl_1_0, xl_1_1, xl_2_0, xl_2_1, xl_2_2, xl_3_0, xl_3_1, xl_3_2, xl_3_3]; done) | (rcases (hR i (by omega)).1 with q | q <;> simp_all [aTold, nI_cl (show i < 2 ^ 31 by omega)]) | (clear hTs hR hK; simp_all [aTold, nI_cl (show i < 2 ^ 31 by omega)]; done))) (xle_rf _) d_X_told_82
    by_cases c_5 : what = 3
    ·
      refine X_tableIn (tgt := 83) d_X_told_18 (by rw [c_5]; decide) (by rw [c_5]; decide) (by rw [c_5]; rfl) (by decide) ?_
      refine X_aload_n d_X_told_83 rfl rfl ?_
      refine X_getI (v := I (17 + 2 * i) 3) fg_X_143 (yH xYok_f (show i < 5 by omega)) rfl (rfl) d_X_told_84 ?_
      exact X_iret rfl (congrArg (fun q => some (Value.int q)) (by first | (simp [aTold, c_1, nI_cl (show i < 2 ^ 31 by omega), c_2, c_3, c_4, c_5, xl_1_0, xl_1_1, xl_2_0, xl_2_1, xl_2_2, xl_3_0, xl_3_1, xl_3_2, xl_3_3]; done) | (rcases (hR i (by omega)).1 with q | q <;> simp_all [aTold, nI_cl (show i < 2 ^ 31 by omega)]) | (clear hTs hR hK; simp_all [aTold, nI_cl (show i < 2 ^ 31 by omega)]; done))) (xle_rf _) d_X_told_87
    by_cases c_6 : what = 4
    ·
      refine X_tableIn (tgt := 88) d_X_told_18 (by rw [c_6]; decide) (by rw [c_6]; decide) (by rw [c_6]; rfl) (by decide) ?_
      refine X_aload_n d_X_told_88 rfl rfl ?_
      refine X_getI (v := I (17 + 2 * i) 4) fg_X_146 (yH xYok_f (show i < 5 by omega)) rfl (rfl) d_X_told_89 ?_
      exact X_iret rfl (congrArg (fun q => some (Value.int q)) (by first | (simp [aTold, c_1, nI_cl (show i < 2 ^ 31 by omega), c_2, c_3, c_4, c_5, c_6, xl_1_0, xl_1_1, xl_2_0, xl_2_1, xl_2_2, xl_3_0, xl_3_1, xl_3_2, xl_3_3]; done) | (rcases (hR i (by omega)).1 with q | q <;> simp_all [aTold, nI_cl (show i < 2 ^ 31 by omega)]) | (clear hTs hR hK; simp_all [aTold, nI_cl (show i < 2 ^ 31 by omega)]; done))) (xle_rf _) d_X_told_92
    by_cases c_7 : what = 5
    ·
      refine X_tableIn (tgt := 93) d_X_told_18 (by rw [c_7]; decide) (by rw [c_7]; decide) (by rw [c_7]; rfl) (by decide) ?_
      refine X_aload_n d_X_told_93 rfl rfl ?_
      refine X_getI (v := I (17 + 2 * i) 5) fg_X_156 (yH xYok_f (show i < 5 by omega)) rfl (rfl) d_X_told_94 ?_
      exact X_iret rfl (congrArg (fun q => some (Value.int q)) (by first | (simp [aTold, c_1, nI_cl (show i < 2 ^ 31 by omega), c_2, c_3, c_4, c_5, c_6, c_7, xl_1_0, xl_1_1, xl_2_0, xl_2_1, xl_2_2, xl_3_0, xl_3_1, xl_3_2, xl_3_3]; done) | (rcases (hR i (by omega)).1 with q | q <;> simp_all [aTold, nI_cl (show i < 2 ^ 31 by omega)]) | (clear hTs hR hK; simp_all [aTold, nI_cl (show i < 2 ^ 31 by omega)]; done))) (xle_rf _) d_X_told_97
    by_cases c_8 : what = 6
    ·
      refine X_tableIn (tgt := 98) d_X_told_18 (by rw [c_8]; decide) (by rw [c_8]; decide) (by rw [c_8]; rfl) (by decide) ?_
      refine X_aload_n d_X_told_98 rfl rfl ?_
      refine X_getI (v := I (17 + 2 * i) 6) fg_X_159 (yH xYok_f (show i < 5 by omega)) rfl (rfl) d_X_told_99 ?_
      exact X_iret rfl (congrArg (fun q => some (Value.int q)) (by first | (simp [aTold, c_1, nI_cl (show i < 2 ^ 31 by omega), c_2, c_3, c_4, c_5, c_6, c_7, c_8, xl_1_0, xl_1_1, xl_2_0, xl_2_1, xl_2_2, xl_3_0, xl_3_1, xl_3_2, xl_3_3]; done) | (rcases (hR i (by omega)).1 with q | q <;> simp_all [aTold, nI_cl (show i < 2 ^ 31 by omega)]) | (clear hTs hR hK; simp_all [aTold, nI_cl (show i < 2 ^ 31 by omega)]; done))) (xle_rf _) d_X_told_102
    by_cases c_9 : what = 7
    ·
      refine X_tableIn (tgt := 103) d_X_told_18 (by rw [c_9]; decide) (by rw [c_9]; decide) (by rw [c_9]; rfl) (by decide) ?_
      refine X_aload_n d_X_told_103 rfl rfl ?_
      refine X_getI (v := I (17 + 2 * i) 7) fg_X_162 (yH xYok_f (show i < 5 by omega)) rfl (rfl) d_X_told_104 ?_
      refine X_if_eq (tgt := 114) d_X_told_107 (by decide) (fun c_10 => ?_) (fun c_10 => ?_)
      ·
        refine X_iconst (v := 0) d_X_told_114 rfl ?_
        exact X_iret rfl (congrArg (fun q => some (Value.int q)) (by first | (simp [aTold, c_1, nI_cl (show i < 2 ^ 31 by omega), c_2, c_3, c_4, c_5, c_6, c_7, c_8, c_9, c_10, xl_1_0, xl_1_1, xl_2_0, xl_2_1, xl_2_2, xl_3_0, xl_3_1, xl_3_2, xl_3_3]; done) | (rcases (hR i (by omega)).1 with q | q <;> simp_all [aTold, nI_cl (show i < 2 ^ 31 by omega)]) | (clear hTs hR hK; simp_all [aTold, nI_cl (show i < 2 ^ 31 by omega)]; done))) (xle_rf _) d_X_told_115
      ·
        refine X_iconst (v := 1) d_X_told_110 rfl ?_
        refine X_goto (tgt := 115) d_X_told_111 (by decide) ?_
        exact X_iret rfl (congrArg (fun q => some (Value.int q)) (by first | (simp [aTold, c_1, nI_cl (show i < 2 ^ 31 by omega), c_2, c_3, c_4, c_5, c_6, c_7, c_8, c_9, c_10, xl_1_0, xl_1_1, xl_2_0, xl_2_1, xl_2_2, xl_3_0, xl_3_1, xl_3_2, xl_3_3]; done) | (rcases (hR i (by omega)).1 with q | q <;> simp_all [aTold, nI_cl (show i < 2 ^ 31 by omega)]) | (clear hTs hR hK; simp_all [aTold, nI_cl (show i < 2 ^ 31 by omega)]; done))) (xle_rf _) d_X_told_115
    by_cases c_11 : what = 8
    ·
      refine X_tableIn (tgt := 116) d_X_told_18 (by rw [c_11]; decide) (by rw [c_11]; decide) (by rw [c_11]; rfl) (by decide) ?_
      refine X_aload_n d_X_told_116 rfl rfl ?_
      refine X_callV (v := .int (kFalls ((I (17 + 2 * i)) 0) ((I (17 + 2 * i)) 1))) (rest := []) (k_Head_fallsFrom l G nn xYf I (by omega) (17 + 2 * i) (yH xYok_f (show i < 5 by omega))  (I (17 + 2 * i)) (rfl)) lk_Head_fallsFrom ml_X_166 (xm_obj (yH xYok_f (show i < 5 by omega))) rfl rfl (Nat.le_of_ble_eq_true rfl) (xRok (d' := d - 1) (by omega) (by decide)) ⟨Nat.le_refl _, Nat.le_refl _⟩ d_X_told_117 rfl ?_
      exact X_iret rfl (congrArg (fun q => some (Value.int q)) (by first | (simp [aTold, c_1, nI_cl (show i < 2 ^ 31 by omega), c_2, c_3, c_4, c_5, c_6, c_7, c_8, c_9, c_11, xl_1_0, xl_1_1, xl_2_0, xl_2_1, xl_2_2, xl_3_0, xl_3_1, xl_3_2, xl_3_3]; done) | (rcases (hR i (by omega)).1 with q | q <;> simp_all [aTold, nI_cl (show i < 2 ^ 31 by omega)]) | (clear hTs hR hK; simp_all [aTold, nI_cl (show i < 2 ^ 31 by omega)]; done))) (xle_rf _) d_X_told_120
    refine X_tableOut (tgt := 121) d_X_told_18 (xtout what (0) (8) (by decide) (by intro q h1 h2; have hq : q = 0 ∨ q = 1 ∨ q = 2 ∨ q = 3 ∨ q = 4 ∨ q = 5 ∨ q = 6 ∨ q = 7 ∨ q = 8 := (by omega); rcases hq with rfl | rfl | rfl | rfl | rfl | rfl | rfl | rfl | rfl <;> first | exact c_2 | exact c_3 | exact c_4 | exact c_5 | exact c_6 | exact c_7 | exact c_8 | exact c_9 | exact c_11)) (by decide) ?_
    refine X_ldc cs_X_149 d_X_told_121 ?_
    exact X_iret rfl (congrArg (fun q => some (Value.int q)) (by first | (simp [aTold, c_1, nI_cl (show i < 2 ^ 31 by omega), c_2, c_3, c_4, c_5, c_6, c_7, c_8, c_9, c_11, xl_1_0, xl_1_1, xl_2_0, xl_2_1, xl_2_2, xl_3_0, xl_3_1, xl_3_2, xl_3_3]; done) | (rcases (hR i (by omega)).1 with q | q <;> simp_all [aTold, nI_cl (show i < 2 ^ 31 by omega)]) | (clear hTs hR hK; simp_all [aTold, nI_cl (show i < 2 ^ 31 by omega)]; done))) (xle_rf _) d_X_told_123
  ·
    refine X_ldc cs_X_139 d_X_told_8 ?_
    exact X_iret rfl (congrArg (fun q => some (Value.int q)) (by first | (simp [aTold, c_1, xl_1_0, xl_1_1, xl_2_0, xl_2_1, xl_2_2, xl_3_0, xl_3_1, xl_3_2, xl_3_3]; done) | (rcases (hR i (by omega)).1 with q | q <;> simp_all [aTold, nI_cl (show i < 2 ^ 31 by omega)]) | (clear hTs hR hK; simp_all [aTold]; done))) (xle_rf _) d_X_told_10
theorem c_X_ends (l : Launch) (G : xG) {d : Nat} (nn : Nat) (I : xI) (hd : 10 ≤ d) (hc tc ln : Nat) (S : Nat → xSay) (hK : cOK I hc tc ln S) (h n wsp sec what : Int32) : XM l G d y_X_ends b_X_ends 7 (some .int) 0 0 xK0 [.ref (xg G 0), .int h, .int n, .int wsp, .int sec, .int what] nn (xm G xYf I) (some (.int (aEnds hc (S ln) (fun i => I (17 + 2 * i)) h n wsp sec what))) nn (xm G xYf (I)) := by
  obtain ⟨⟨h10, h5⟩, ⟨h11, h6⟩, ⟨h12, hl⟩, hTs, hR⟩ := id hK
  have hT : xTx xYf I (27 + 4 * ln) (S ln) := hTs ln hl
  refine XM.of (by decide) (Nat.le_of_ble_eq_true rfl) (L := [(0, .ref (xg G 0)), (1, .int h), (2, .int n), (3, .int wsp), (4, .int sec), (5, .int what)]) rfl ?_
  refine X_knowH (a := 3) rfl (fun f3 hf3 => ?_)
  refine X_aload_n d_X_ends_0 rfl rfl ?_
  refine X_iload_n d_X_ends_1 rfl rfl ?_
  refine X_callV (v := .int (xb (xin h 0 (nI hc - 1)))) (rest := []) (c_X_isHead l G nn (xup xYf 3 (some sHead)) (xup I 3 f3) (by omega) (xYok_3 xYok_f _) h (nI hc) ((congrFun (xup_n _ _ (by decide)) _).trans (h10))) lk_X_isHead ml_X_113 (xm_obj (y0 (xYok_3 xYok_f _))) rfl rfl (Nat.le_of_ble_eq_true rfl) (xRok (d' := d - 1) (by omega) (by decide)) ⟨Nat.le_refl _, Nat.le_refl _⟩ d_X_ends_2 rfl ?_
  refine X_ifb_ne (tgt := 11) d_X_ends_5 (by decide) (fun c_1 => ?_) (fun c_1 => ?_)
  ·
    obtain ⟨i, hi, rfl⟩ := cHead h5 c_1
    refine X_iload_n d_X_ends_11 rfl rfl ?_
    refine X_callS (v := .int (xb (xin n (-40) 40))) (rest := []) (c_X_isTurns l G nn _ (by omega) n) lk_X_isTurns ml_X_169 rfl (Nat.le_of_ble_eq_true rfl) (xRok (d' := d - 1) (by omega) (by decide)) ⟨Nat.le_refl _, Nat.le_refl _⟩ d_X_ends_12 rfl ?_
    refine X_ifb_eq (tgt := 43) d_X_ends_15 (by decide) (fun c_2 => ?_) (fun c_2 => ?_)
    ·
      refine X_ldc cs_X_149 d_X_ends_43 ?_
      exact X_iret rfl (congrArg (fun q => some (Value.int q)) (by first | (simp [aEnds, c_1, nI_cl (show i < 2 ^ 31 by omega), c_2, tTry, xl_1_0, xl_1_1, xl_2_0, xl_2_1, xl_2_2, xl_3_0, xl_3_1, xl_3_2, xl_3_3]; done) | (exfalso; simp_all; done) | (clear hTs hR hK; simp_all [aEnds, nI_cl (show i < 2 ^ 31 by omega), tTry]; done))) (xle_3 (fun k hk => by simp only [xup_n _ _ hk])) d_X_ends_45
    ·
      refine X_iload_n d_X_ends_18 rfl rfl ?_
      refine X_callS (v := .int (xb (xwsp wsp))) (rest := []) (c_X_isWaitSpeedPace l G nn _ (by omega) wsp) lk_X_isWaitSpeedPace ml_X_198 rfl (Nat.le_of_ble_eq_true rfl) (xRok (d' := d - 1) (by omega) (by decide)) ⟨Nat.le_refl _, Nat.le_refl _⟩ d_X_ends_19 rfl ?_
      refine X_ifb_eq (tgt := 43) d_X_ends_22 (by decide) (fun c_3 => ?_) (fun c_3 => ?_)
      ·
        refine X_ldc cs_X_149 d_X_ends_43 ?_
        exact X_iret rfl (congrArg (fun q => some (Value.int q)) (by first | (simp [aEnds, c_1, nI_cl (show i < 2 ^ 31 by omega), c_2, c_3, tTry, xl_1_0, xl_1_1, xl_2_0, xl_2_1, xl_2_2, xl_3_0, xl_3_1, xl_3_2, xl_3_3]; done) | (exfalso; simp_all; done) | (clear hTs hR hK; simp_all [aEnds, nI_cl (show i < 2 ^ 31 by omega), tTry]; done))) (xle_3 (fun k hk => by simp only [xup_n _ _ hk])) d_X_ends_45
      ·
        refine X_iload d_X_ends_25 rfl ?_
        refine X_callS (v := .int (xb (xin sec 0 60))) (rest := []) (c_X_isSeconds l G nn _ (by omega) sec) lk_X_isSeconds ml_X_185 rfl (Nat.le_of_ble_eq_true rfl) (xRok (d' := d - 1) (by omega) (by decide)) ⟨Nat.le_refl _, Nat.le_refl _⟩ d_X_ends_27 rfl ?_
        refine X_ifb_eq (tgt := 43) d_X_ends_30 (by decide) (fun c_4 => ?_) (fun c_4 => ?_)
        ·
          refine X_ldc cs_X_149 d_X_ends_43 ?_
          exact X_iret rfl (congrArg (fun q => some (Value.int q)) (by first | (simp [aEnds, c_1, nI_cl (show i < 2 ^ 31 by omega), c_2, c_3, c_4, tTry, xl_1_0, xl_1_1, xl_2_0, xl_2_1, xl_2_2, xl_3_0, xl_3_1, xl_3_2, xl_3_3]; done) | (exfalso; simp_all; done) | (clear hTs hR hK; simp_all [aEnds, nI_cl (show i < 2 ^ 31 by omega), tTry]; done))) (xle_3 (fun k hk => by simp only [xup_n _ _ hk])) d_X_ends_45
        ·
          refine X_iload d_X_ends_33 rfl ?_
          refine X_iconst (v := 0) d_X_ends_35 rfl ?_
          refine X_iconst (v := 3) d_X_ends_36 rfl ?_
          refine X_callS (v := .int (xb (xin what 0 3))) (rest := []) (c_X_within l G nn _ (by omega) what 0 3) lk_X_within ml_X_105 rfl (Nat.le_of_ble_eq_true rfl) (xRok (d' := d - 1) (by omega) (by decide)) ⟨Nat.le_refl _, Nat.le_refl _⟩ d_X_ends_37 rfl ?_
          refine X_ifb_ne (tgt := 46) d_X_ends_40 (by decide) (fun c_5 => ?_) (fun c_5 => ?_)
          ·
            refine X_aload_n d_X_ends_46 rfl rfl ?_
            refine X_aload_n d_X_ends_47 rfl rfl ?_
            refine X_iload_n d_X_ends_48 rfl rfl ?_
            refine X_callV (v := .ref (xg G (17 + 2 * i))) (rest := [.ref (xg G 0)]) (c_X_headAt l G nn (xup xYf 3 (some sHead)) (xup I 3 f3) (by omega) (xYok_3 xYok_f _) i (by omega)) lk_X_headAt ml_X_124 (xm_obj (y0 (xYok_3 xYok_f _))) rfl rfl (Nat.le_of_ble_eq_true rfl) (xRok (d' := d - 1) (by omega) (by decide)) ⟨Nat.le_refl _, Nat.le_refl _⟩ d_X_ends_49 rfl ?_
            refine X_aload_n d_X_ends_52 rfl rfl ?_
            refine X_callV (v := .ref (xg G (27 + 4 * ln))) (rest := [.ref (xg G (17 + 2 * i)), .ref (xg G 0)]) (c_X_law l G nn (xup xYf 3 (some sHead)) (xup I 3 f3) (by omega) (xYok_3 xYok_f _) ln (by omega) ((congrFun (xup_n _ _ (by decide)) _).trans (h12))) lk_X_law ml_X_120 (xm_obj (y0 (xYok_3 xYok_f _))) rfl rfl (Nat.le_of_ble_eq_true rfl) (xRok (d' := d - 1) (by omega) (by decide)) ⟨Nat.le_refl _, Nat.le_refl _⟩ d_X_ends_53 rfl ?_
            refine X_iload_n d_X_ends_56 rfl rfl ?_
            refine X_iload_n d_X_ends_57 rfl rfl ?_
            refine X_bipush (v := 10) d_X_ends_58 rfl ?_
            refine X_idiv d_X_ends_60 (by decide) ?_
            refine X_bipush (v := 10) d_X_ends_61 rfl ?_
            refine X_irem d_X_ends_63 (by decide) ?_
            refine X_callVv (rest := []) (k_X_thinkTurned l G nn (xup xYf 3 (some sHead)) (xup I 3 f3) (by omega) (xYok_3 xYok_f _) (show (xup xYf 3 (some sHead)) 3 = some sHead from rfl) (17 + 2 * i) (yH (xYok_3 xYok_f _) (show i < 5 by omega)) (by omega) (27 + 4 * ln) (S ln) (xTx_up (xTx_Y (xYok_3 xYok_f _) (show ln < 6 by omega) (hTs ln hl)) (show (xup xYf 3 (some sHead)) 3 = some sHead from rfl)) n ((wsp / 10) - (wsp / 10) / 10 * 10) (xin_abs c_2) f3 (I (17 + 2 * i)) (xup_s _ _ _) (xup_n _ _ (by omega)) (hR _ (by omega)) hf3) lk_X_thinkTurned ml_X_201 (xm_obj (y0 (xYok_3 xYok_f _))) rfl rfl (Nat.le_of_ble_eq_true rfl) (xRok (d' := d - 1) (by omega) (by decide)) ⟨Nat.le_refl _, Nat.le_refl _⟩ d_X_ends_64 rfl ?_
            rw [xup_up]
            refine X_aload_n d_X_ends_67 rfl rfl ?_
            refine X_getR (r := 3) fg_X_19 (y0 (xYok_3 xYok_f _)) rfl d_X_ends_68 ?_
            refine X_aload_n d_X_ends_71 rfl rfl ?_
            refine X_callV (v := .ref (xg G (27 + 4 * ln))) (rest := [.ref (xg G 3)]) (c_X_law l G nn (xup xYf 3 (some sHead)) (xup I 3 (hSpin (S ln) n ((wsp / 10) - (wsp / 10) / 10 * 10) (hStd (I (17 + 2 * i))))) (by omega) (xYok_3 xYok_f _) ln (by omega) ((congrFun (xup_n _ _ (by decide)) _).trans (h12))) lk_X_law ml_X_120 (xm_obj (y0 (xYok_3 xYok_f _))) rfl rfl (Nat.le_of_ble_eq_true rfl) (xRok (d' := d - 1) (by omega) (by decide)) ⟨Nat.le_refl _, Nat.le_refl _⟩ d_X_ends_72 rfl ?_
            refine X_iload_n d_X_ends_75 rfl rfl ?_
            refine X_bipush (v := 100) d_X_ends_76 rfl ?_
            refine X_idiv d_X_ends_78 (by decide) ?_
            refine X_iconst (v := 1) d_X_ends_79 rfl ?_
            refine X_callVv (rest := []) (k_Head_linger l G nn (xup xYf 3 (some sHead)) (xup I 3 (hSpin (S ln) n ((wsp / 10) - (wsp / 10) / 10 * 10) (hStd (I (17 + 2 * i))))) (by omega) 3 (show (xup xYf 3 (some sHead)) 3 = some sHead from rfl) (27 + 4 * ln) (S ln) (xTx_up (xTx_Y (xYok_3 xYok_f _) (show ln < 6 by omega) (hTs ln hl)) (show (xup xYf 3 (some sHead)) 3 = some sHead from rfl)) (wsp / 100) 1 (xwsp_w c_3) (hSpin (S ln) n ((wsp / 10) - (wsp / 10) / 10 * 10) (hStd (I (17 + 2 * i)))) (xup_s _ _ _)) lk_Head_linger ml_X_188 (xm_obj (show (xup xYf 3 (some sHead)) 3 = some sHead from rfl)) rfl rfl (Nat.le_of_ble_eq_true rfl) (xRok (d' := d - 1) (by omega) (by decide)) ⟨Nat.le_refl _, Nat.le_refl _⟩ d_X_ends_80 rfl ?_
            rw [xup_up]
            refine X_aload_n d_X_ends_83 rfl rfl ?_
            refine X_getR (r := 3) fg_X_19 (y0 (xYok_3 xYok_f _)) rfl d_X_ends_84 ?_
            refine X_aload_n d_X_ends_87 rfl rfl ?_
            refine X_callV (v := .ref (xg G (27 + 4 * ln))) (rest := [.ref (xg G 3)]) (c_X_law l G nn (xup xYf 3 (some sHead)) (xup I 3 (hLing (S ln) 1 ((wsp / 100)).toNatClampNeg (hSpin (S ln) n ((wsp / 10) - (wsp / 10) / 10 * 10) (hStd (I (17 + 2 * i)))))) (by omega) (xYok_3 xYok_f _) ln (by omega) ((congrFun (xup_n _ _ (by decide)) _).trans (h12))) lk_X_law ml_X_120 (xm_obj (y0 (xYok_3 xYok_f _))) rfl rfl (Nat.le_of_ble_eq_true rfl) (xRok (d' := d - 1) (by omega) (by decide)) ⟨Nat.le_refl _, Nat.le_refl _⟩ d_X_ends_88 rfl ?_
            refine X_iload d_X_ends_91 rfl ?_
            refine X_iload_n d_X_ends_93 rfl rfl ?_
            refine X_bipush (v := 10) d_X_ends_94 rfl ?_
            refine X_irem d_X_ends_96 (by decide) ?_
            refine X_iconst (v := 1) d_X_ends_97 rfl ?_
            refine X_callV (v := .int (hFall (S ln) (wsp - wsp / 10 * 10) 1 (sec).toNatClampNeg 0 (hLing (S ln) 1 ((wsp / 100)).toNatClampNeg (hSpin (S ln) n ((wsp / 10) - (wsp / 10) / 10 * 10) (hStd (I (17 + 2 * i))))))) (rest := []) (k_Head_goOn l G nn (xup xYf 3 (some sHead)) (xup I 3 (hLing (S ln) 1 ((wsp / 100)).toNatClampNeg (hSpin (S ln) n ((wsp / 10) - (wsp / 10) / 10 * 10) (hStd (I (17 + 2 * i)))))) (by omega) 3 (show (xup xYf 3 (some sHead)) 3 = some sHead from rfl) (27 + 4 * ln) (S ln) (xTx_up (xTx_Y (xYok_3 xYok_f _) (show ln < 6 by omega) (hTs ln hl)) (show (xup xYf 3 (some sHead)) 3 = some sHead from rfl)) sec (wsp - wsp / 10 * 10) 1 (xin_nn c_4) (hLing (S ln) 1 ((wsp / 100)).toNatClampNeg (hSpin (S ln) n ((wsp / 10) - (wsp / 10) / 10 * 10) (hStd (I (17 + 2 * i))))) (xup_s _ _ _) (hOK_ling _ _ (hOK_spin _ _ _ (hOK_sd (hR _ (by omega)))) _).1) lk_Head_goOn ml_X_191 (xm_obj (show (xup xYf 3 (some sHead)) 3 = some sHead from rfl)) rfl rfl (Nat.le_of_ble_eq_true rfl) (xRok (d' := d - 1) (by omega) (by decide)) ⟨Nat.le_refl _, Nat.le_refl _⟩ d_X_ends_98 rfl ?_
            rw [xup_up]
            refine X_istore d_X_ends_101 (by decide) [1, 2, 3, 4, 5, 6, 0] (L' := [(0, .ref (xg G 0)), (1, .int (nI i)), (2, .int n), (3, .int wsp), (4, .int sec), (5, .int what), (6, .int (hFall (S ln) (wsp - wsp / 10 * 10) 1 (sec).toNatClampNeg 0 (hLing (S ln) 1 ((wsp / 100)).toNatClampNeg (hSpin (S ln) n ((wsp / 10) - (wsp / 10) / 10 * 10) (hStd (I (17 + 2 * i)))))))]) rfl ?_
            refine X_iload d_X_ends_103 rfl ?_
            by_cases c_6 : what = 0
            ·
              refine X_tableIn (tgt := 132) d_X_ends_105 (by rw [c_6]; decide) (by rw [c_6]; decide) (by rw [c_6]; rfl) (by decide) ?_
              refine X_aload_n d_X_ends_132 rfl rfl ?_
              refine X_getR (r := 3) fg_X_19 (y0 (xYok_3 xYok_f _)) rfl d_X_ends_133 ?_
              refine X_getI (v := (hGo (S ln) (wsp - wsp / 10 * 10) 1 (sec).toNatClampNeg (hLing (S ln) 1 ((wsp / 100)).toNatClampNeg (hSpin (S ln) n ((wsp / 10) - (wsp / 10) / 10 * 10) (hStd (I (17 + 2 * i)))))) 2) fg_X_140 (show (xup xYf 3 (some sHead)) 3 = some sHead from rfl) rfl (congrFun (xup_s _ _ _) _) d_X_ends_136 ?_
              exact X_iret rfl (congrArg (fun q => some (Value.int q)) (by first | (simp [aEnds, c_1, nI_cl (show i < 2 ^ 31 by omega), c_2, c_3, c_4, c_5, c_6, tTry, xl_1_0, xl_1_1, xl_2_0, xl_2_1, xl_2_2, xl_3_0, xl_3_1, xl_3_2, xl_3_3]; done) | (exfalso; simp_all; done) | (clear hTs hR hK; simp_all [aEnds, nI_cl (show i < 2 ^ 31 by omega), tTry]; done))) (xle_3 (fun k hk => by simp only [xup_n _ _ hk])) d_X_ends_139
            by_cases c_7 : what = 1
            ·
              refine X_tableIn (tgt := 140) d_X_ends_105 (by rw [c_7]; decide) (by rw [c_7]; decide) (by rw [c_7]; rfl) (by decide) ?_
              refine X_aload_n d_X_ends_140 rfl rfl ?_
              refine X_getR (r := 3) fg_X_19 (y0 (xYok_3 xYok_f _)) rfl d_X_ends_141 ?_
              refine X_getI (v := (hGo (S ln) (wsp - wsp / 10 * 10) 1 (sec).toNatClampNeg (hLing (S ln) 1 ((wsp / 100)).toNatClampNeg (hSpin (S ln) n ((wsp / 10) - (wsp / 10) / 10 * 10) (hStd (I (17 + 2 * i)))))) 6) fg_X_159 (show (xup xYf 3 (some sHead)) 3 = some sHead from rfl) rfl (congrFun (xup_s _ _ _) _) d_X_ends_144 ?_
              exact X_iret rfl (congrArg (fun q => some (Value.int q)) (by first | (simp [aEnds, c_1, nI_cl (show i < 2 ^ 31 by omega), c_2, c_3, c_4, c_5, c_6, c_7, tTry, xl_1_0, xl_1_1, xl_2_0, xl_2_1, xl_2_2, xl_3_0, xl_3_1, xl_3_2, xl_3_3]; done) | (exfalso; simp_all; done) | (clear hTs hR hK; simp_all [aEnds, nI_cl (show i < 2 ^ 31 by omega), tTry]; done))) (xle_3 (fun k hk => by simp only [xup_n _ _ hk])) d_X_ends_147
            by_cases c_8 : what = 2
            ·
              refine X_tableIn (tgt := 148) d_X_ends_105 (by rw [c_8]; decide) (by rw [c_8]; decide) (by rw [c_8]; rfl) (by decide) ?_
              refine X_aload_n d_X_ends_148 rfl rfl ?_
              refine X_getR (r := 3) fg_X_19 (y0 (xYok_3 xYok_f _)) rfl d_X_ends_149 ?_
              refine X_getI (v := (hGo (S ln) (wsp - wsp / 10 * 10) 1 (sec).toNatClampNeg (hLing (S ln) 1 ((wsp / 100)).toNatClampNeg (hSpin (S ln) n ((wsp / 10) - (wsp / 10) / 10 * 10) (hStd (I (17 + 2 * i)))))) 5) fg_X_156 (show (xup xYf 3 (some sHead)) 3 = some sHead from rfl) rfl (congrFun (xup_s _ _ _) _) d_X_ends_152 ?_
              exact X_iret rfl (congrArg (fun q => some (Value.int q)) (by first | (simp [aEnds, c_1, nI_cl (show i < 2 ^ 31 by omega), c_2, c_3, c_4, c_5, c_6, c_7, c_8, tTry, xl_1_0, xl_1_1, xl_2_0, xl_2_1, xl_2_2, xl_3_0, xl_3_1, xl_3_2, xl_3_3]; done) | (exfalso; simp_all; done) | (clear hTs hR hK; simp_all [aEnds, nI_cl (show i < 2 ^ 31 by omega), tTry]; done))) (xle_3 (fun k hk => by simp only [xup_n _ _ hk])) d_X_ends_155
            refine X_tableOut (tgt := 156) d_X_ends_105 (xtout what (0) (2) (by decide) (by intro q h1 h2; have hq : q = 0 ∨ q = 1 ∨ q = 2 := (by omega); rcases hq with rfl | rfl | rfl <;> first | exact c_6 | exact c_7 | exact c_8)) (by decide) ?_
            refine X_iload d_X_ends_156 rfl ?_
            exact X_iret rfl (congrArg (fun q => some (Value.int q)) (by first | (simp [aEnds, c_1, nI_cl (show i < 2 ^ 31 by omega), c_2, c_3, c_4, c_5, c_6, c_7, c_8, tTry, xl_1_0, xl_1_1, xl_2_0, xl_2_1, xl_2_2, xl_3_0, xl_3_1, xl_3_2, xl_3_3]; done) | (exfalso; simp_all; done) | (clear hTs hR hK; simp_all [aEnds, nI_cl (show i < 2 ^ 31 by omega), tTry]; done))) (xle_3 (fun k hk => by simp only [xup_n _ _ hk])) d_X_ends_158
          ·
            refine X_ldc cs_X_149 d_X_ends_43 ?_
            exact X_iret rfl (congrArg (fun q => some (Value.int q)) (by first | (simp [aEnds, c_1, nI_cl (show i < 2 ^ 31 by omega), c_2, c_3, c_4, c_5, tTry, xl_1_0, xl_1_1, xl_2_0, xl_2_1, xl_2_2, xl_3_0, xl_3_1, xl_3_2, xl_3_3]; done) | (exfalso; simp_all; done) | (clear hTs hR hK; simp_all [aEnds, nI_cl (show i < 2 ^ 31 by omega), tTry]; done))) (xle_3 (fun k hk => by simp only [xup_n _ _ hk])) d_X_ends_45
  ·
    refine X_ldc cs_X_139 d_X_ends_8 ?_
    exact X_iret rfl (congrArg (fun q => some (Value.int q)) (by first | (simp [aEnds, c_1, tTry, xl_1_0, xl_1_1, xl_2_0, xl_2_1, xl_2_2, xl_3_0, xl_3_1, xl_3_2, xl_3_3]; done) | (exfalso; simp_all; done) | (clear hTs hR hK; simp_all [aEnds, tTry]; done))) (xle_3 (fun k hk => by simp only [xup_n _ _ hk])) d_X_ends_10
theorem c_X_asks (l : Launch) (G : xG) {d : Nat} (nn : Nat) (I : xI) (hd : 6 ≤ d) (hc tc ln : Nat) (S : Nat → xSay) (hK : cOK I hc tc ln S) (part h se : Int32) : XM l G d y_X_asks b_X_asks 4 (some .int) 0 0 xK0 [.ref (xg G 0), .int part, .int h, .int se] nn (xm G xYf I) (some (.int (aAsks hc (S ln) (fun i => I (17 + 2 * i)) part h se))) nn (xm G xYf (I)) := by
  obtain ⟨⟨h10, h5⟩, ⟨h11, h6⟩, ⟨h12, hl⟩, hTs, hR⟩ := id hK
  refine XM.of (by decide) (Nat.le_of_ble_eq_true rfl) (L := [(0, .ref (xg G 0)), (1, .int part), (2, .int h), (3, .int se)]) rfl ?_
  refine X_iload_n d_X_asks_0 rfl rfl ?_
  refine X_iconst (v := 0) d_X_asks_1 rfl ?_
  refine X_iconst (v := 2) d_X_asks_2 rfl ?_
  refine X_callS (v := .int (xb (xin part 0 2))) (rest := []) (c_X_within l G nn _ (by omega) part 0 2) lk_X_within ml_X_105 rfl (Nat.le_of_ble_eq_true rfl) (xRok (d' := d - 1) (by omega) (by decide)) ⟨Nat.le_refl _, Nat.le_refl _⟩ d_X_asks_3 rfl ?_
  refine X_ifb_eq (tgt := 25) d_X_asks_6 (by decide) (fun c_1 => ?_) (fun c_1 => ?_)
  ·
    refine X_bipush (v := -2) d_X_asks_25 rfl ?_
    exact X_iret rfl (congrArg (fun q => some (Value.int q)) (by first | (simp [aAsks, c_1, xl_1_0, xl_1_1, xl_2_0, xl_2_1, xl_2_2, xl_3_0, xl_3_1, xl_3_2, xl_3_3]; done) | (exfalso; simp_all; done) | (clear hTs hR hK; simp_all [aAsks]; done))) (xle_rf _) d_X_asks_27
  ·
    refine X_aload_n d_X_asks_9 rfl rfl ?_
    refine X_iload_n d_X_asks_10 rfl rfl ?_
    refine X_callV (v := .int (xb (xin h 0 (nI hc - 1)))) (rest := []) (c_X_isHead l G nn xYf I (by omega) xYok_f h (nI hc) (h10)) lk_X_isHead ml_X_113 (xm_obj (y0 xYok_f)) rfl rfl (Nat.le_of_ble_eq_true rfl) (xRok (d' := d - 1) (by omega) (by decide)) ⟨Nat.le_refl _, Nat.le_refl _⟩ d_X_asks_11 rfl ?_
    refine X_ifb_eq (tgt := 25) d_X_asks_14 (by decide) (fun c_2 => ?_) (fun c_2 => ?_)
    ·
      refine X_bipush (v := -2) d_X_asks_25 rfl ?_
      exact X_iret rfl (congrArg (fun q => some (Value.int q)) (by first | (simp [aAsks, c_1, c_2, xl_1_0, xl_1_1, xl_2_0, xl_2_1, xl_2_2, xl_3_0, xl_3_1, xl_3_2, xl_3_3]; done) | (exfalso; simp_all; done) | (clear hTs hR hK; simp_all [aAsks]; done))) (xle_rf _) d_X_asks_27
    ·
      obtain ⟨i, hi, rfl⟩ := cHead h5 c_2
      refine X_iload_n d_X_asks_17 rfl rfl ?_
      refine X_iconst (v := 0) d_X_asks_18 rfl ?_
      refine X_callS (v := .int (xb (xnum se 0))) (rest := []) (c_X_isNumberAndEyes l G nn _ (by omega) se 0) lk_X_isNumberAndEyes ml_X_116 rfl (Nat.le_of_ble_eq_true rfl) (xRok (d' := d - 1) (by omega) (by decide)) ⟨Nat.le_refl _, Nat.le_refl _⟩ d_X_asks_19 rfl ?_
      refine X_ifb_ne (tgt := 28) d_X_asks_22 (by decide) (fun c_3 => ?_) (fun c_3 => ?_)
      ·
        refine X_aload_n d_X_asks_28 rfl rfl ?_
        refine X_callV (v := .ref (xg G (27 + 4 * ln))) (rest := []) (c_X_law l G nn xYf I (by omega) xYok_f ln (by omega) (h12)) lk_X_law ml_X_120 (xm_obj (y0 xYok_f)) rfl rfl (Nat.le_of_ble_eq_true rfl) (xRok (d' := d - 1) (by omega) (by decide)) ⟨Nat.le_refl _, Nat.le_refl _⟩ d_X_asks_29 rfl ?_
        refine X_iload_n d_X_asks_32 rfl rfl ?_
        refine X_aload_n d_X_asks_33 rfl rfl ?_
        refine X_iload_n d_X_asks_34 rfl rfl ?_
        refine X_callV (v := .ref (xg G (17 + 2 * i))) (rest := [.int part, .ref (xg G (27 + 4 * ln))]) (c_X_headAt l G nn xYf I (by omega) xYok_f i (by omega)) lk_X_headAt ml_X_124 (xm_obj (y0 xYok_f)) rfl rfl (Nat.le_of_ble_eq_true rfl) (xRok (d' := d - 1) (by omega) (by decide)) ⟨Nat.le_refl _, Nat.le_refl _⟩ d_X_asks_35 rfl ?_
        refine X_iload_n d_X_asks_38 rfl rfl ?_
        refine X_bipush (v := 10) d_X_asks_39 rfl ?_
        refine X_idiv d_X_asks_41 (by decide) ?_
        refine X_iload_n d_X_asks_42 rfl rfl ?_
        refine X_bipush (v := 10) d_X_asks_43 rfl ?_
        refine X_irem d_X_asks_45 (by decide) ?_
        refine X_callV (v := .int ((S ln) part (se / 10) (se - se / 10 * 10) (I (17 + 2 * i)))) (rest := []) (c_Text_says l G nn xYf I (by omega) (27 + 4 * ln) (S ln) (xTx_Y xYok_f (show ln < 6 by omega) (hTs ln hl)) (17 + 2 * i) (yH xYok_f (show i < 5 by omega)) part (se / 10) (se - se / 10 * 10) (x012 c_1)) lk_Text_says ml_X_128 (xm_obj (yT xYok_f (show ln < 6 by omega)).1) rfl rfl (Nat.le_of_ble_eq_true rfl) (xRok (d' := d - 1) (by omega) (by decide)) ⟨Nat.le_refl _, Nat.le_refl _⟩ d_X_asks_46 rfl ?_
        exact X_iret rfl (congrArg (fun q => some (Value.int q)) (by first | (simp [aAsks, c_1, c_2, nI_cl (show i < 2 ^ 31 by omega), c_3, xl_1_0, xl_1_1, xl_2_0, xl_2_1, xl_2_2, xl_3_0, xl_3_1, xl_3_2, xl_3_3]; done) | (exfalso; simp_all; done) | (clear hTs hR hK; simp_all [aAsks, nI_cl (show i < 2 ^ 31 by omega)]; done))) (xle_rf _) d_X_asks_49
      ·
        refine X_bipush (v := -2) d_X_asks_25 rfl ?_
        exact X_iret rfl (congrArg (fun q => some (Value.int q)) (by first | (simp [aAsks, c_1, c_2, nI_cl (show i < 2 ^ 31 by omega), c_3, xl_1_0, xl_1_1, xl_2_0, xl_2_1, xl_2_2, xl_3_0, xl_3_1, xl_3_2, xl_3_3]; done) | (exfalso; simp_all; done) | (clear hTs hR hK; simp_all [aAsks, nI_cl (show i < 2 ^ 31 by omega)]; done))) (xle_rf _) d_X_asks_27
theorem c_X_turn (l : Launch) (G : xG) {d : Nat} (nn : Nat) (I : xI) (hd : 9 ≤ d) (hc tc ln : Nat) (S : Nat → xSay) (hK : cOK I hc tc ln S) (h n sp : Int32) : XM l G d y_X_turn b_X_turn 5 (some .int) 0 0 xK0 [.ref (xg G 0), .int h, .int n, .int sp] nn (xm G xYf I) (some (.int (aTurn hc (S ln) (fun i => I (17 + 2 * i)) h n sp))) nn (xm G xYf (if okTurn hc h n sp = true then xup I (17 + 2 * h.toNatClampNeg) (rTurn (S ln) n sp (I (17 + 2 * h.toNatClampNeg))) else I)) := by
  obtain ⟨⟨h10, h5⟩, ⟨h11, h6⟩, ⟨h12, hl⟩, hTs, hR⟩ := id hK
  refine XM.of (by decide) (Nat.le_of_ble_eq_true rfl) (L := [(0, .ref (xg G 0)), (1, .int h), (2, .int n), (3, .int sp)]) rfl ?_
  refine X_aload_n d_X_turn_0 rfl rfl ?_
  refine X_iload_n d_X_turn_1 rfl rfl ?_
  refine X_callV (v := .int (xb (xin h 0 (nI hc - 1)))) (rest := []) (c_X_isHead l G nn xYf I (by omega) xYok_f h (nI hc) (h10)) lk_X_isHead ml_X_113 (xm_obj (y0 xYok_f)) rfl rfl (Nat.le_of_ble_eq_true rfl) (xRok (d' := d - 1) (by omega) (by decide)) ⟨Nat.le_refl _, Nat.le_refl _⟩ d_X_turn_2 rfl ?_
  refine X_ifb_ne (tgt := 11) d_X_turn_5 (by decide) (fun c_1 => ?_) (fun c_1 => ?_)
  ·
    obtain ⟨i, hi, rfl⟩ := cHead h5 c_1
    refine X_iload_n d_X_turn_11 rfl rfl ?_
    refine X_callS (v := .int (xb (xin n (-40) 40))) (rest := []) (c_X_isTurns l G nn _ (by omega) n) lk_X_isTurns ml_X_169 rfl (Nat.le_of_ble_eq_true rfl) (xRok (d' := d - 1) (by omega) (by decide)) ⟨Nat.le_refl _, Nat.le_refl _⟩ d_X_turn_12 rfl ?_
    refine X_ifb_eq (tgt := 25) d_X_turn_15 (by decide) (fun c_2 => ?_) (fun c_2 => ?_)
    ·
      refine X_ldc cs_X_149 d_X_turn_25 ?_
      exact X_iret rfl (congrArg (fun q => some (Value.int q)) (by first | (simp [aTurn, c_1, nI_cl (show i < 2 ^ 31 by omega), c_2, xl_1_0, xl_1_1, xl_2_0, xl_2_1, xl_2_2, xl_3_0, xl_3_1, xl_3_2, xl_3_3]; done) | (exfalso; simp_all; done) | (clear hTs hR hK; simp_all [aTurn, nI_cl (show i < 2 ^ 31 by omega)]; done))) (xle_of (congrArg (xm G xYf) (by first | (simp [okTurn, rTurn, c_1, nI_cl (show i < 2 ^ 31 by omega), c_2, xw_is, xup_s, xup_up, xup_n, xl_1_0, xl_1_1]; done) | (exfalso; simp_all; done)))) d_X_turn_27
    ·
      refine X_iload_n d_X_turn_18 rfl rfl ?_
      refine X_callS (v := .int (xb (xin sp 1 9))) (rest := []) (c_X_isPace l G nn _ (by omega) sp) lk_X_isPace ml_X_172 rfl (Nat.le_of_ble_eq_true rfl) (xRok (d' := d - 1) (by omega) (by decide)) ⟨Nat.le_refl _, Nat.le_refl _⟩ d_X_turn_19 rfl ?_
      refine X_ifb_ne (tgt := 28) d_X_turn_22 (by decide) (fun c_3 => ?_) (fun c_3 => ?_)
      ·
        refine X_aload_n d_X_turn_28 rfl rfl ?_
        refine X_iload_n d_X_turn_29 rfl rfl ?_
        refine X_callV (v := .ref (xg G (17 + 2 * i))) (rest := []) (c_X_headAt l G nn xYf I (by omega) xYok_f i (by omega)) lk_X_headAt ml_X_124 (xm_obj (y0 xYok_f)) rfl rfl (Nat.le_of_ble_eq_true rfl) (xRok (d' := d - 1) (by omega) (by decide)) ⟨Nat.le_refl _, Nat.le_refl _⟩ d_X_turn_30 rfl ?_
        refine X_astore d_X_turn_33 (by decide) [1, 2, 3, 4, 0] (L' := [(0, .ref (xg G 0)), (1, .int (nI i)), (2, .int n), (3, .int sp), (4, .ref (xg G (17 + 2 * i)))]) rfl ?_
        refine X_aload d_X_turn_35 rfl ?_
        refine X_aload_n d_X_turn_37 rfl rfl ?_
        refine X_callV (v := .ref (xg G (27 + 4 * ln))) (rest := [.ref (xg G (17 + 2 * i))]) (c_X_law l G nn xYf I (by omega) xYok_f ln (by omega) (h12)) lk_X_law ml_X_120 (xm_obj (y0 xYok_f)) rfl rfl (Nat.le_of_ble_eq_true rfl) (xRok (d' := d - 1) (by omega) (by decide)) ⟨Nat.le_refl _, Nat.le_refl _⟩ d_X_turn_38 rfl ?_
        refine X_iload_n d_X_turn_41 rfl rfl ?_
        refine X_iload_n d_X_turn_42 rfl rfl ?_
        refine X_callVv (rest := []) (k_Head_spin l G nn xYf I (by omega) (17 + 2 * i) (yH xYok_f (show i < 5 by omega)) (27 + 4 * ln) (S ln) (xTx_Y xYok_f (show ln < 6 by omega) (hTs ln hl)) n sp (xin_abs c_2) (I (17 + 2 * i)) (rfl)) lk_Head_spin ml_X_175 (xm_obj (yH xYok_f (show i < 5 by omega))) rfl rfl (Nat.le_of_ble_eq_true rfl) (xRok (d' := d - 1) (by omega) (by decide)) ⟨Nat.le_refl _, Nat.le_refl _⟩ d_X_turn_43 rfl ?_
        refine X_aload d_X_turn_46 rfl ?_
        refine X_aload d_X_turn_48 rfl ?_
        refine X_getI (v := (hSpin (S ln) n sp (I (17 + 2 * i))) 4) fg_X_146 (yH xYok_f (show i < 5 by omega)) rfl (congrFun (xup_s _ _ _) _) d_X_turn_50 ?_
        refine X_iconst (v := 1) d_X_turn_53 rfl ?_
        refine X_iadd d_X_turn_54 ?_
        refine X_bipush (v := 99) d_X_turn_55 rfl ?_
        refine X_mmin ml_X_179 mt_min mi_math mc_min (xRm (by omega) (Nat.le_of_ble_eq_true rfl)) ⟨Nat.zero_le _, Nat.zero_le _⟩ d_X_turn_57 ?_
        refine X_putI fp_X_146 (yH xYok_f (show i < 5 by omega)) rfl d_X_turn_60 ?_
        refine X_aload d_X_turn_63 rfl ?_
        refine X_getI (v := (hSpin (S ln) n sp (I (17 + 2 * i))) 2) fg_X_140 (yH xYok_f (show i < 5 by omega)) rfl ((xw_k _ _ _ (by decide)).trans (congrFun (xup_s _ _ _) _)) d_X_turn_65 ?_
        exact X_iret rfl (congrArg (fun q => some (Value.int q)) (by first | (simp [aTurn, c_1, nI_cl (show i < 2 ^ 31 by omega), c_2, c_3, xl_1_0, xl_1_1, xl_2_0, xl_2_1, xl_2_2, xl_3_0, xl_3_1, xl_3_2, xl_3_3]; done) | (exfalso; simp_all; done) | (clear hTs hR hK; simp_all [aTurn, nI_cl (show i < 2 ^ 31 by omega)]; done))) (xle_of (congrArg (xm G xYf) (by first | (simp [okTurn, rTurn, c_1, nI_cl (show i < 2 ^ 31 by omega), c_2, c_3, xw_is, xup_s, xup_up, xup_n, xl_1_0, xl_1_1]; done) | (exfalso; simp_all; done)))) d_X_turn_68
      ·
        refine X_ldc cs_X_149 d_X_turn_25 ?_
        exact X_iret rfl (congrArg (fun q => some (Value.int q)) (by first | (simp [aTurn, c_1, nI_cl (show i < 2 ^ 31 by omega), c_2, c_3, xl_1_0, xl_1_1, xl_2_0, xl_2_1, xl_2_2, xl_3_0, xl_3_1, xl_3_2, xl_3_3]; done) | (exfalso; simp_all; done) | (clear hTs hR hK; simp_all [aTurn, nI_cl (show i < 2 ^ 31 by omega)]; done))) (xle_of (congrArg (xm G xYf) (by first | (simp [okTurn, rTurn, c_1, nI_cl (show i < 2 ^ 31 by omega), c_2, c_3, xw_is, xup_s, xup_up, xup_n, xl_1_0, xl_1_1]; done) | (exfalso; simp_all; done)))) d_X_turn_27
  ·
    refine X_ldc cs_X_139 d_X_turn_8 ?_
    exact X_iret rfl (congrArg (fun q => some (Value.int q)) (by first | (simp [aTurn, c_1, xl_1_0, xl_1_1, xl_2_0, xl_2_1, xl_2_2, xl_3_0, xl_3_1, xl_3_2, xl_3_3]; done) | (exfalso; simp_all; done) | (clear hTs hR hK; simp_all [aTurn]; done))) (xle_of (congrArg (xm G xYf) (by first | (simp [okTurn, rTurn, c_1, xw_is, xup_s, xup_up, xup_n, xl_1_0, xl_1_1]; done) | (exfalso; simp_all; done)))) d_X_turn_10
def okRest (hc : Nat) (h sec eyes : Int32) : Bool := xin h 0 (nI hc - 1) && xin sec 0 60 && xin eyes 0 1
def okWalk (hc : Nat) (h sec pe : Int32) : Bool := xin h 0 (nI hc - 1) && xin sec 0 60 && xnum pe 1
theorem c_X_rest (l : Launch) (G : xG) {d : Nat} (nn : Nat) (I : xI) (hd : 8 ≤ d) (hc tc ln : Nat) (S : Nat → xSay) (hK : cOK I hc tc ln S) (h sec eyes : Int32) : XM l G d y_X_rest b_X_rest 5 (some .int) 0 0 xK0 [.ref (xg G 0), .int h, .int sec, .int eyes] nn (xm G xYf I) (some (.int (aRest hc (S ln) (fun i => I (17 + 2 * i)) h sec eyes))) nn (xm G xYf (if okRest hc h sec eyes = true then xup I (17 + 2 * h.toNatClampNeg) (hLing (S ln) eyes sec.toNatClampNeg (I (17 + 2 * h.toNatClampNeg))) else I)) := by
  obtain ⟨⟨h10, h5⟩, ⟨h11, h6⟩, ⟨h12, hl⟩, hTs, hR⟩ := id hK
  refine XM.of (by decide) (Nat.le_of_ble_eq_true rfl) (L := [(0, .ref (xg G 0)), (1, .int h), (2, .int sec), (3, .int eyes)]) rfl ?_
  refine X_aload_n d_X_rest_0 rfl rfl ?_
  refine X_iload_n d_X_rest_1 rfl rfl ?_
  refine X_callV (v := .int (xb (xin h 0 (nI hc - 1)))) (rest := []) (c_X_isHead l G nn xYf I (by omega) xYok_f h (nI hc) (h10)) lk_X_isHead ml_X_113 (xm_obj (y0 xYok_f)) rfl rfl (Nat.le_of_ble_eq_true rfl) (xRok (d' := d - 1) (by omega) (by decide)) ⟨Nat.le_refl _, Nat.le_refl _⟩ d_X_rest_2 rfl ?_
  refine X_ifb_ne (tgt := 11) d_X_rest_5 (by decide) (fun c_1 => ?_) (fun c_1 => ?_)
  ·
    obtain ⟨i, hi, rfl⟩ := cHead h5 c_1
    refine X_iload_n d_X_rest_11 rfl rfl ?_
    refine X_callS (v := .int (xb (xin sec 0 60))) (rest := []) (c_X_isSeconds l G nn _ (by omega) sec) lk_X_isSeconds ml_X_185 rfl (Nat.le_of_ble_eq_true rfl) (xRok (d' := d - 1) (by omega) (by decide)) ⟨Nat.le_refl _, Nat.le_refl _⟩ d_X_rest_12 rfl ?_
    refine X_ifb_eq (tgt := 27) d_X_rest_15 (by decide) (fun c_2 => ?_) (fun c_2 => ?_)
    ·
      refine X_ldc cs_X_149 d_X_rest_27 ?_
      exact X_iret rfl (congrArg (fun q => some (Value.int q)) (by first | (simp [aRest, c_1, nI_cl (show i < 2 ^ 31 by omega), c_2, xl_1_0, xl_1_1, xl_2_0, xl_2_1, xl_2_2, xl_3_0, xl_3_1, xl_3_2, xl_3_3]; done) | (exfalso; simp_all; done) | (clear hTs hR hK; simp_all [aRest, nI_cl (show i < 2 ^ 31 by omega)]; done))) (xle_of (congrArg (xm G xYf) (by first | (simp [okRest, c_1, nI_cl (show i < 2 ^ 31 by omega), c_2, xw_is, xup_s, xup_up, xup_n, xl_1_0, xl_1_1]; done) | (exfalso; simp_all; done)))) d_X_rest_29
    ·
      refine X_iload_n d_X_rest_18 rfl rfl ?_
      refine X_iconst (v := 0) d_X_rest_19 rfl ?_
      refine X_iconst (v := 1) d_X_rest_20 rfl ?_
      refine X_callS (v := .int (xb (xin eyes 0 1))) (rest := []) (c_X_within l G nn _ (by omega) eyes 0 1) lk_X_within ml_X_105 rfl (Nat.le_of_ble_eq_true rfl) (xRok (d' := d - 1) (by omega) (by decide)) ⟨Nat.le_refl _, Nat.le_refl _⟩ d_X_rest_21 rfl ?_
      refine X_ifb_ne (tgt := 30) d_X_rest_24 (by decide) (fun c_3 => ?_) (fun c_3 => ?_)
      ·
        refine X_aload_n d_X_rest_30 rfl rfl ?_
        refine X_iload_n d_X_rest_31 rfl rfl ?_
        refine X_callV (v := .ref (xg G (17 + 2 * i))) (rest := []) (c_X_headAt l G nn xYf I (by omega) xYok_f i (by omega)) lk_X_headAt ml_X_124 (xm_obj (y0 xYok_f)) rfl rfl (Nat.le_of_ble_eq_true rfl) (xRok (d' := d - 1) (by omega) (by decide)) ⟨Nat.le_refl _, Nat.le_refl _⟩ d_X_rest_32 rfl ?_
        refine X_astore d_X_rest_35 (by decide) [1, 2, 3, 4, 0] (L' := [(0, .ref (xg G 0)), (1, .int (nI i)), (2, .int sec), (3, .int eyes), (4, .ref (xg G (17 + 2 * i)))]) rfl ?_
        refine X_aload d_X_rest_37 rfl ?_
        refine X_aload_n d_X_rest_39 rfl rfl ?_
        refine X_callV (v := .ref (xg G (27 + 4 * ln))) (rest := [.ref (xg G (17 + 2 * i))]) (c_X_law l G nn xYf I (by omega) xYok_f ln (by omega) (h12)) lk_X_law ml_X_120 (xm_obj (y0 xYok_f)) rfl rfl (Nat.le_of_ble_eq_true rfl) (xRok (d' := d - 1) (by omega) (by decide)) ⟨Nat.le_refl _, Nat.le_refl _⟩ d_X_rest_40 rfl ?_
        refine X_iload_n d_X_rest_43 rfl rfl ?_
        refine X_iload_n d_X_rest_44 rfl rfl ?_
        refine X_callVv (rest := []) (k_Head_linger l G nn xYf I (by omega) (17 + 2 * i) (yH xYok_f (show i < 5 by omega)) (27 + 4 * ln) (S ln) (xTx_Y xYok_f (show ln < 6 by omega) (hTs ln hl)) sec eyes (xin_nn c_2) (I (17 + 2 * i)) (rfl)) lk_Head_linger ml_X_188 (xm_obj (yH xYok_f (show i < 5 by omega))) rfl rfl (Nat.le_of_ble_eq_true rfl) (xRok (d' := d - 1) (by omega) (by decide)) ⟨Nat.le_refl _, Nat.le_refl _⟩ d_X_rest_45 rfl ?_
        refine X_aload d_X_rest_48 rfl ?_
        refine X_getI (v := (hLing (S ln) eyes (sec).toNatClampNeg (I (17 + 2 * i))) 2) fg_X_140 (yH xYok_f (show i < 5 by omega)) rfl (congrFun (xup_s _ _ _) _) d_X_rest_50 ?_
        exact X_iret rfl (congrArg (fun q => some (Value.int q)) (by first | (simp [aRest, c_1, nI_cl (show i < 2 ^ 31 by omega), c_2, c_3, xl_1_0, xl_1_1, xl_2_0, xl_2_1, xl_2_2, xl_3_0, xl_3_1, xl_3_2, xl_3_3]; done) | (exfalso; simp_all; done) | (clear hTs hR hK; simp_all [aRest, nI_cl (show i < 2 ^ 31 by omega)]; done))) (xle_of (congrArg (xm G xYf) (by first | (simp [okRest, c_1, nI_cl (show i < 2 ^ 31 by omega), c_2, c_3, xw_is, xup_s, xup_up, xup_n, xl_1_0, xl_1_1]; done) | (exfalso; simp_all; done)))) d_X_rest_53
      ·
        refine X_ldc cs_X_149 d_X_rest_27 ?_
        exact X_iret rfl (congrArg (fun q => some (Value.int q)) (by first | (simp [aRest, c_1, nI_cl (show i < 2 ^ 31 by omega), c_2, c_3, xl_1_0, xl_1_1, xl_2_0, xl_2_1, xl_2_2, xl_3_0, xl_3_1, xl_3_2, xl_3_3]; done) | (exfalso; simp_all; done) | (clear hTs hR hK; simp_all [aRest, nI_cl (show i < 2 ^ 31 by omega)]; done))) (xle_of (congrArg (xm G xYf) (by first | (simp [okRest, c_1, nI_cl (show i < 2 ^ 31 by omega), c_2, c_3, xw_is, xup_s, xup_up, xup_n, xl_1_0, xl_1_1]; done) | (exfalso; simp_all; done)))) d_X_rest_29
  ·
    refine X_ldc cs_X_139 d_X_rest_8 ?_
    exact X_iret rfl (congrArg (fun q => some (Value.int q)) (by first | (simp [aRest, c_1, xl_1_0, xl_1_1, xl_2_0, xl_2_1, xl_2_2, xl_3_0, xl_3_1, xl_3_2, xl_3_3]; done) | (exfalso; simp_all; done) | (clear hTs hR hK; simp_all [aRest]; done))) (xle_of (congrArg (xm G xYf) (by first | (simp [okRest, c_1, xw_is, xup_s, xup_up, xup_n, xl_1_0, xl_1_1]; done) | (exfalso; simp_all; done)))) d_X_rest_10
theorem c_X_walk (l : Launch) (G : xG) {d : Nat} (nn : Nat) (I : xI) (hd : 9 ≤ d) (hc tc ln : Nat) (S : Nat → xSay) (hK : cOK I hc tc ln S) (h sec pe : Int32) : XM l G d y_X_walk b_X_walk 5 (some .int) 0 0 xK0 [.ref (xg G 0), .int h, .int sec, .int pe] nn (xm G xYf I) (some (.int (aWalk hc (S ln) (fun i => I (17 + 2 * i)) h sec pe))) nn (xm G xYf (if okWalk hc h sec pe = true then xup I (17 + 2 * h.toNatClampNeg) (hGo (S ln) (pe / 10) (pe - pe / 10 * 10) sec.toNatClampNeg (I (17 + 2 * h.toNatClampNeg))) else I)) := by
  obtain ⟨⟨h10, h5⟩, ⟨h11, h6⟩, ⟨h12, hl⟩, hTs, hR⟩ := id hK
  refine XM.of (by decide) (Nat.le_of_ble_eq_true rfl) (L := [(0, .ref (xg G 0)), (1, .int h), (2, .int sec), (3, .int pe)]) rfl ?_
  refine X_aload_n d_X_walk_0 rfl rfl ?_
  refine X_iload_n d_X_walk_1 rfl rfl ?_
  refine X_callV (v := .int (xb (xin h 0 (nI hc - 1)))) (rest := []) (c_X_isHead l G nn xYf I (by omega) xYok_f h (nI hc) (h10)) lk_X_isHead ml_X_113 (xm_obj (y0 xYok_f)) rfl rfl (Nat.le_of_ble_eq_true rfl) (xRok (d' := d - 1) (by omega) (by decide)) ⟨Nat.le_refl _, Nat.le_refl _⟩ d_X_walk_2 rfl ?_
  refine X_ifb_ne (tgt := 11) d_X_walk_5 (by decide) (fun c_1 => ?_) (fun c_1 => ?_)
  ·
    obtain ⟨i, hi, rfl⟩ := cHead h5 c_1
    refine X_iload_n d_X_walk_11 rfl rfl ?_
    refine X_callS (v := .int (xb (xin sec 0 60))) (rest := []) (c_X_isSeconds l G nn _ (by omega) sec) lk_X_isSeconds ml_X_185 rfl (Nat.le_of_ble_eq_true rfl) (xRok (d' := d - 1) (by omega) (by decide)) ⟨Nat.le_refl _, Nat.le_refl _⟩ d_X_walk_12 rfl ?_
    refine X_ifb_eq (tgt := 26) d_X_walk_15 (by decide) (fun c_2 => ?_) (fun c_2 => ?_)
    ·
      refine X_ldc cs_X_149 d_X_walk_26 ?_
      exact X_iret rfl (congrArg (fun q => some (Value.int q)) (by first | (simp [aWalk, c_1, nI_cl (show i < 2 ^ 31 by omega), c_2, xl_1_0, xl_1_1, xl_2_0, xl_2_1, xl_2_2, xl_3_0, xl_3_1, xl_3_2, xl_3_3]; done) | (exfalso; simp_all; done) | (clear hTs hR hK; simp_all [aWalk, nI_cl (show i < 2 ^ 31 by omega)]; done))) (xle_of (congrArg (xm G xYf) (by first | (simp [okWalk, c_1, nI_cl (show i < 2 ^ 31 by omega), c_2, xw_is, xup_s, xup_up, xup_n, xl_1_0, xl_1_1]; done) | (exfalso; simp_all; done)))) d_X_walk_28
    ·
      refine X_iload_n d_X_walk_18 rfl rfl ?_
      refine X_iconst (v := 1) d_X_walk_19 rfl ?_
      refine X_callS (v := .int (xb (xnum pe 1))) (rest := []) (c_X_isNumberAndEyes l G nn _ (by omega) pe 1) lk_X_isNumberAndEyes ml_X_116 rfl (Nat.le_of_ble_eq_true rfl) (xRok (d' := d - 1) (by omega) (by decide)) ⟨Nat.le_refl _, Nat.le_refl _⟩ d_X_walk_20 rfl ?_
      refine X_ifb_ne (tgt := 29) d_X_walk_23 (by decide) (fun c_3 => ?_) (fun c_3 => ?_)
      ·
        refine X_aload_n d_X_walk_29 rfl rfl ?_
        refine X_iload_n d_X_walk_30 rfl rfl ?_
        refine X_callV (v := .ref (xg G (17 + 2 * i))) (rest := []) (c_X_headAt l G nn xYf I (by omega) xYok_f i (by omega)) lk_X_headAt ml_X_124 (xm_obj (y0 xYok_f)) rfl rfl (Nat.le_of_ble_eq_true rfl) (xRok (d' := d - 1) (by omega) (by decide)) ⟨Nat.le_refl _, Nat.le_refl _⟩ d_X_walk_31 rfl ?_
        refine X_astore d_X_walk_34 (by decide) [1, 2, 3, 4, 0] (L' := [(0, .ref (xg G 0)), (1, .int (nI i)), (2, .int sec), (3, .int pe), (4, .ref (xg G (17 + 2 * i)))]) rfl ?_
        refine X_aload d_X_walk_36 rfl ?_
        refine X_aload_n d_X_walk_38 rfl rfl ?_
        refine X_callV (v := .ref (xg G (27 + 4 * ln))) (rest := [.ref (xg G (17 + 2 * i))]) (c_X_law l G nn xYf I (by omega) xYok_f ln (by omega) (h12)) lk_X_law ml_X_120 (xm_obj (y0 xYok_f)) rfl rfl (Nat.le_of_ble_eq_true rfl) (xRok (d' := d - 1) (by omega) (by decide)) ⟨Nat.le_refl _, Nat.le_refl _⟩ d_X_walk_39 rfl ?_
        refine X_iload_n d_X_walk_42 rfl rfl ?_
        refine X_iload_n d_X_walk_43 rfl rfl ?_
        refine X_bipush (v := 10) d_X_walk_44 rfl ?_
        refine X_idiv d_X_walk_46 (by decide) ?_
        refine X_iload_n d_X_walk_47 rfl rfl ?_
        refine X_bipush (v := 10) d_X_walk_48 rfl ?_
        refine X_irem d_X_walk_50 (by decide) ?_
        refine X_callV (v := .int (hFall (S ln) (pe / 10) (pe - pe / 10 * 10) (sec).toNatClampNeg 0 (I (17 + 2 * i)))) (rest := []) (k_Head_goOn l G nn xYf I (by omega) (17 + 2 * i) (yH xYok_f (show i < 5 by omega)) (27 + 4 * ln) (S ln) (xTx_Y xYok_f (show ln < 6 by omega) (hTs ln hl)) sec (pe / 10) (pe - pe / 10 * 10) (xin_nn c_2) (I (17 + 2 * i)) (rfl) (hR _ (by omega)).1) lk_Head_goOn ml_X_191 (xm_obj (yH xYok_f (show i < 5 by omega))) rfl rfl (Nat.le_of_ble_eq_true rfl) (xRok (d' := d - 1) (by omega) (by decide)) ⟨Nat.le_refl _, Nat.le_refl _⟩ d_X_walk_51 rfl ?_
        refine X_pop d_X_walk_54 rfl ?_
        refine X_aload d_X_walk_55 rfl ?_
        refine X_getI (v := (hGo (S ln) (pe / 10) (pe - pe / 10 * 10) (sec).toNatClampNeg (I (17 + 2 * i))) 6) fg_X_159 (yH xYok_f (show i < 5 by omega)) rfl (congrFun (xup_s _ _ _) _) d_X_walk_57 ?_
        exact X_iret rfl (congrArg (fun q => some (Value.int q)) (by first | (simp [aWalk, c_1, nI_cl (show i < 2 ^ 31 by omega), c_2, c_3, xl_1_0, xl_1_1, xl_2_0, xl_2_1, xl_2_2, xl_3_0, xl_3_1, xl_3_2, xl_3_3]; done) | (exfalso; simp_all; done) | (clear hTs hR hK; simp_all [aWalk, nI_cl (show i < 2 ^ 31 by omega)]; done))) (xle_of (congrArg (xm G xYf) (by first | (simp [okWalk, c_1, nI_cl (show i < 2 ^ 31 by omega), c_2, c_3, xw_is, xup_s, xup_up, xup_n, xl_1_0, xl_1_1]; done) | (exfalso; simp_all; done)))) d_X_walk_60
      ·
        refine X_ldc cs_X_149 d_X_walk_26 ?_
        exact X_iret rfl (congrArg (fun q => some (Value.int q)) (by first | (simp [aWalk, c_1, nI_cl (show i < 2 ^ 31 by omega), c_2, c_3, xl_1_0, xl_1_1, xl_2_0, xl_2_1, xl_2_2, xl_3_0, xl_3_1, xl_3_2, xl_3_3]; done) | (exfalso; simp_all; done) | (clear hTs hR hK; simp_all [aWalk, nI_cl (show i < 2 ^ 31 by omega)]; done))) (xle_of (congrArg (xm G xYf) (by first | (simp [okWalk, c_1, nI_cl (show i < 2 ^ 31 by omega), c_2, c_3, xw_is, xup_s, xup_up, xup_n, xl_1_0, xl_1_1]; done) | (exfalso; simp_all; done)))) d_X_walk_28
  ·
    refine X_ldc cs_X_139 d_X_walk_8 ?_
    exact X_iret rfl (congrArg (fun q => some (Value.int q)) (by first | (simp [aWalk, c_1, xl_1_0, xl_1_1, xl_2_0, xl_2_1, xl_2_2, xl_3_0, xl_3_1, xl_3_2, xl_3_3]; done) | (exfalso; simp_all; done) | (clear hTs hR hK; simp_all [aWalk]; done))) (xle_of (congrArg (xm G xYf) (by first | (simp [okWalk, c_1, xw_is, xup_s, xup_up, xup_n, xl_1_0, xl_1_1]; done) | (exfalso; simp_all; done)))) d_X_walk_10
theorem c_X_up (l : Launch) (G : xG) {d : Nat} (nn : Nat) (I : xI) (hd : 3 ≤ d) (hc tc ln : Nat) (S : Nat → xSay) (hK : cOK I hc tc ln S) (h : Int32) : XM l G d y_X_up b_X_up 4 (some .int) 0 0 xK0 [.ref (xg G 0), .int h] nn (xm G xYf I) (some (.int (aUp hc (fun i => I (17 + 2 * i)) h))) nn (xm G xYf (if xin h 0 (nI hc - 1) = true then xup I (17 + 2 * h.toNatClampNeg) (hStd (I (17 + 2 * h.toNatClampNeg))) else I)) := by
  obtain ⟨⟨h10, h5⟩, ⟨h11, h6⟩, ⟨h12, hl⟩, hTs, hR⟩ := id hK
  refine XM.of (by decide) (Nat.le_of_ble_eq_true rfl) (L := [(0, .ref (xg G 0)), (1, .int h)]) rfl ?_
  refine X_aload_n d_X_up_0 rfl rfl ?_
  refine X_iload_n d_X_up_1 rfl rfl ?_
  refine X_callV (v := .int (xb (xin h 0 (nI hc - 1)))) (rest := []) (c_X_isHead l G nn xYf I (by omega) xYok_f h (nI hc) (h10)) lk_X_isHead ml_X_113 (xm_obj (y0 xYok_f)) rfl rfl (Nat.le_of_ble_eq_true rfl) (xRok (d' := d - 1) (by omega) (by decide)) ⟨Nat.le_refl _, Nat.le_refl _⟩ d_X_up_2 rfl ?_
  refine X_ifb_ne (tgt := 11) d_X_up_5 (by decide) (fun c_1 => ?_) (fun c_1 => ?_)
  ·
    obtain ⟨i, hi, rfl⟩ := cHead h5 c_1
    refine X_aload_n d_X_up_11 rfl rfl ?_
    refine X_iload_n d_X_up_12 rfl rfl ?_
    refine X_callV (v := .ref (xg G (17 + 2 * i))) (rest := []) (c_X_headAt l G nn xYf I (by omega) xYok_f i (by omega)) lk_X_headAt ml_X_124 (xm_obj (y0 xYok_f)) rfl rfl (Nat.le_of_ble_eq_true rfl) (xRok (d' := d - 1) (by omega) (by decide)) ⟨Nat.le_refl _, Nat.le_refl _⟩ d_X_up_13 rfl ?_
    refine X_astore_n d_X_up_16 rfl (by decide) [1, 2, 0] (L' := [(0, .ref (xg G 0)), (1, .int (nI i)), (2, .ref (xg G (17 + 2 * i)))]) rfl ?_
    refine X_aload_n d_X_up_17 rfl rfl ?_
    refine X_getI (v := I (17 + 2 * i) 6) fg_X_159 (yH xYok_f (show i < 5 by omega)) rfl (rfl) d_X_up_18 ?_
    refine X_istore_n d_X_up_21 rfl (by decide) [1, 2, 3, 0] (L' := [(0, .ref (xg G 0)), (1, .int (nI i)), (2, .ref (xg G (17 + 2 * i))), (3, .int (I (17 + 2 * i) 6))]) rfl ?_
    refine X_aload_n d_X_up_22 rfl rfl ?_
    refine X_callVv (rest := []) (k_Head_standAtStart l G nn xYf I (by omega) (17 + 2 * i) (yH xYok_f (show i < 5 by omega))  (I (17 + 2 * i)) (rfl)) lk_Head_standAtStart ml_X_195 (xm_obj (yH xYok_f (show i < 5 by omega))) rfl rfl (Nat.le_of_ble_eq_true rfl) (xRok (d' := d - 1) (by omega) (by decide)) ⟨Nat.le_refl _, Nat.le_refl _⟩ d_X_up_23 rfl ?_
    refine X_iload_n d_X_up_26 rfl rfl ?_
    exact X_iret rfl (congrArg (fun q => some (Value.int q)) (by first | (simp [aUp, c_1, nI_cl (show i < 2 ^ 31 by omega), xl_1_0, xl_1_1, xl_2_0, xl_2_1, xl_2_2, xl_3_0, xl_3_1, xl_3_2, xl_3_3]; done) | (exfalso; simp_all; done) | (clear hTs hR hK; simp_all [aUp, nI_cl (show i < 2 ^ 31 by omega)]; done))) (xle_of (congrArg (xm G xYf) (by first | (simp [c_1, nI_cl (show i < 2 ^ 31 by omega), xw_is, xup_s, xup_up, xup_n, xl_1_0, xl_1_1]; done) | (exfalso; simp_all; done)))) d_X_up_27
  ·
    refine X_ldc cs_X_139 d_X_up_8 ?_
    exact X_iret rfl (congrArg (fun q => some (Value.int q)) (by first | (simp [aUp, c_1, xl_1_0, xl_1_1, xl_2_0, xl_2_1, xl_2_2, xl_3_0, xl_3_1, xl_3_2, xl_3_3]; done) | (exfalso; simp_all; done) | (clear hTs hR hK; simp_all [aUp]; done))) (xle_of (congrArg (xm G xYf) (by first | (simp [c_1, xw_is, xup_s, xup_up, xup_n, xl_1_0, xl_1_1]; done) | (exfalso; simp_all; done)))) d_X_up_10
theorem c_X_set (l : Launch) (G : xG) {d : Nat} (nn : Nat) (I : xI) (hd : 3 ≤ d) (hc tc ln : Nat) (S : Nat → xSay) (hK : cOK I hc tc ln S) (h what v : Int32) : XM l G d y_X_set b_X_set 6 (some .int) 0 0 xK0 [.ref (xg G 0), .int h, .int what, .int v] nn (xm G xYf I) (some (.int (aSet hc (fun i => I (17 + 2 * i)) h what v))) nn (xm G xYf (if xin h 0 (nI hc - 1) = true then (if what = 0 ∧ xin v (-9999) 9999 = true then xw I (17 + 2 * h.toNatClampNeg) 2 v else if what = 1 ∧ xin v 0 9 = true then xw I (17 + 2 * h.toNatClampNeg) 3 v else if what = 2 ∧ xin v 0 99 = true then xw I (17 + 2 * h.toNatClampNeg) 4 v else I) else I)) := by
  obtain ⟨⟨h10, h5⟩, ⟨h11, h6⟩, ⟨h12, hl⟩, hTs, hR⟩ := id hK
  refine XM.of (by decide) (Nat.le_of_ble_eq_true rfl) (L := [(0, .ref (xg G 0)), (1, .int h), (2, .int what), (3, .int v)]) rfl ?_
  refine X_aload_n d_X_set_0 rfl rfl ?_
  refine X_iload_n d_X_set_1 rfl rfl ?_
  refine X_callV (v := .int (xb (xin h 0 (nI hc - 1)))) (rest := []) (c_X_isHead l G nn xYf I (by omega) xYok_f h (nI hc) (h10)) lk_X_isHead ml_X_113 (xm_obj (y0 xYok_f)) rfl rfl (Nat.le_of_ble_eq_true rfl) (xRok (d' := d - 1) (by omega) (by decide)) ⟨Nat.le_refl _, Nat.le_refl _⟩ d_X_set_2 rfl ?_
  refine X_ifb_ne (tgt := 11) d_X_set_5 (by decide) (fun c_1 => ?_) (fun c_1 => ?_)
  ·
    obtain ⟨i, hi, rfl⟩ := cHead h5 c_1
    refine X_aload_n d_X_set_11 rfl rfl ?_
    refine X_iload_n d_X_set_12 rfl rfl ?_
    refine X_callV (v := .ref (xg G (17 + 2 * i))) (rest := []) (c_X_headAt l G nn xYf I (by omega) xYok_f i (by omega)) lk_X_headAt ml_X_124 (xm_obj (y0 xYok_f)) rfl rfl (Nat.le_of_ble_eq_true rfl) (xRok (d' := d - 1) (by omega) (by decide)) ⟨Nat.le_refl _, Nat.le_refl _⟩ d_X_set_13 rfl ?_
    refine X_astore d_X_set_16 (by decide) [1, 2, 3, 4, 0] (L' := [(0, .ref (xg G 0)), (1, .int (nI i)), (2, .int what), (3, .int v), (4, .ref (xg G (17 + 2 * i)))]) rfl ?_
    refine X_iload_n d_X_set_18 rfl rfl ?_
    refine X_if_ne (tgt := 51) d_X_set_19 (by decide) (fun c_2 => ?_) (fun c_2 => ?_)
    ·
      refine X_iload_n d_X_set_51 rfl rfl ?_
      refine X_iconst (v := 1) d_X_set_52 rfl ?_
      refine X_icmp_ne (tgt := 82) d_X_set_53 (by decide) (fun c_3 => ?_) (fun c_3 => ?_)
      ·
        refine X_iload_n d_X_set_82 rfl rfl ?_
        refine X_iconst (v := 2) d_X_set_83 rfl ?_
        refine X_icmp_ne (tgt := 113) d_X_set_84 (by decide) (fun c_4 => ?_) (fun c_4 => ?_)
        ·
          refine X_ldc cs_X_149 d_X_set_113 ?_
          exact X_iret rfl (congrArg (fun q => some (Value.int q)) (by first | (simp [aSet, c_1, nI_cl (show i < 2 ^ 31 by omega), c_2, c_3, c_4, xl_1_0, xl_1_1, xl_2_0, xl_2_1, xl_2_2, xl_3_0, xl_3_1, xl_3_2, xl_3_3]; done) | (exfalso; simp_all; done) | (clear hTs hR hK; simp_all [aSet, nI_cl (show i < 2 ^ 31 by omega)]; done))) (xle_of (congrArg (xm G xYf) (by first | (simp [c_1, nI_cl (show i < 2 ^ 31 by omega), c_2, c_3, c_4]; done) | (exfalso; simp_all; done)))) d_X_set_115
        ·
          refine X_iload_n d_X_set_87 rfl rfl ?_
          refine X_iconst (v := 0) d_X_set_88 rfl ?_
          refine X_bipush (v := 99) d_X_set_89 rfl ?_
          refine X_callS (v := .int (xb (xin v 0 99))) (rest := []) (c_X_within l G nn _ (by omega) v 0 99) lk_X_within ml_X_105 rfl (Nat.le_of_ble_eq_true rfl) (xRok (d' := d - 1) (by omega) (by decide)) ⟨Nat.le_refl _, Nat.le_refl _⟩ d_X_set_91 rfl ?_
          refine X_ifb_eq (tgt := 113) d_X_set_94 (by decide) (fun c_5 => ?_) (fun c_5 => ?_)
          ·
            refine X_ldc cs_X_149 d_X_set_113 ?_
            exact X_iret rfl (congrArg (fun q => some (Value.int q)) (by first | (simp [aSet, c_1, nI_cl (show i < 2 ^ 31 by omega), c_2, c_3, c_4, c_5, xl_1_0, xl_1_1, xl_2_0, xl_2_1, xl_2_2, xl_3_0, xl_3_1, xl_3_2, xl_3_3]; done) | (exfalso; simp_all; done) | (clear hTs hR hK; simp_all [aSet, nI_cl (show i < 2 ^ 31 by omega)]; done))) (xle_of (congrArg (xm G xYf) (by first | (simp [c_1, nI_cl (show i < 2 ^ 31 by omega), c_2, c_3, c_4, c_5]; done) | (exfalso; simp_all; done)))) d_X_set_115
          ·
            refine X_aload d_X_set_97 rfl ?_
            refine X_getI (v := I (17 + 2 * i) 4) fg_X_146 (yH xYok_f (show i < 5 by omega)) rfl (rfl) d_X_set_99 ?_
            refine X_istore d_X_set_102 (by decide) [1, 2, 3, 4, 5, 0] (L' := [(0, .ref (xg G 0)), (1, .int (nI i)), (2, .int what), (3, .int v), (4, .ref (xg G (17 + 2 * i))), (5, .int (I (17 + 2 * i) 4))]) rfl ?_
            refine X_aload d_X_set_104 rfl ?_
            refine X_iload_n d_X_set_106 rfl rfl ?_
            refine X_putI fp_X_146 (yH xYok_f (show i < 5 by omega)) rfl d_X_set_107 ?_
            refine X_goto (tgt := 116) d_X_set_110 (by decide) ?_
            refine X_iload d_X_set_116 rfl ?_
            exact X_iret rfl (congrArg (fun q => some (Value.int q)) (by first | (simp [aSet, c_1, nI_cl (show i < 2 ^ 31 by omega), c_2, c_3, c_4, c_5, xl_1_0, xl_1_1, xl_2_0, xl_2_1, xl_2_2, xl_3_0, xl_3_1, xl_3_2, xl_3_3]; done) | (exfalso; simp_all; done) | (clear hTs hR hK; simp_all [aSet, nI_cl (show i < 2 ^ 31 by omega)]; done))) (xle_of (congrArg (xm G xYf) (by first | (simp [c_1, nI_cl (show i < 2 ^ 31 by omega), c_2, c_3, c_4, c_5]; done) | (exfalso; simp_all; done)))) d_X_set_118
      ·
        refine X_iload_n d_X_set_56 rfl rfl ?_
        refine X_iconst (v := 0) d_X_set_57 rfl ?_
        refine X_bipush (v := 9) d_X_set_58 rfl ?_
        refine X_callS (v := .int (xb (xin v 0 9))) (rest := []) (c_X_within l G nn _ (by omega) v 0 9) lk_X_within ml_X_105 rfl (Nat.le_of_ble_eq_true rfl) (xRok (d' := d - 1) (by omega) (by decide)) ⟨Nat.le_refl _, Nat.le_refl _⟩ d_X_set_60 rfl ?_
        refine X_ifb_eq (tgt := 82) d_X_set_63 (by decide) (fun c_6 => ?_) (fun c_6 => ?_)
        ·
          refine X_iload_n d_X_set_82 rfl rfl ?_
          refine X_iconst (v := 2) d_X_set_83 rfl ?_
          refine X_icmp_ne (tgt := 113) d_X_set_84 (by decide) (fun c_7 => ?_) (fun c_7 => ?_)
          ·
            refine X_ldc cs_X_149 d_X_set_113 ?_
            exact X_iret rfl (congrArg (fun q => some (Value.int q)) (by first | (simp [aSet, c_1, nI_cl (show i < 2 ^ 31 by omega), c_2, c_3, c_6, c_7, xl_1_0, xl_1_1, xl_2_0, xl_2_1, xl_2_2, xl_3_0, xl_3_1, xl_3_2, xl_3_3]; done) | (exfalso; simp_all; done) | (clear hTs hR hK; simp_all [aSet, nI_cl (show i < 2 ^ 31 by omega)]; done))) (xle_of (congrArg (xm G xYf) (by first | (simp [c_1, nI_cl (show i < 2 ^ 31 by omega), c_2, c_3, c_6, c_7]; done) | (exfalso; simp_all; done)))) d_X_set_115
          ·
            refine X_iload_n d_X_set_87 rfl rfl ?_
            refine X_iconst (v := 0) d_X_set_88 rfl ?_
            refine X_bipush (v := 99) d_X_set_89 rfl ?_
            refine X_callS (v := .int (xb (xin v 0 99))) (rest := []) (c_X_within l G nn _ (by omega) v 0 99) lk_X_within ml_X_105 rfl (Nat.le_of_ble_eq_true rfl) (xRok (d' := d - 1) (by omega) (by decide)) ⟨Nat.le_refl _, Nat.le_refl _⟩ d_X_set_91 rfl ?_
            refine X_ifb_eq (tgt := 113) d_X_set_94 (by decide) (fun c_8 => ?_) (fun c_8 => ?_)
            ·
              refine X_ldc cs_X_149 d_X_set_113 ?_
              exact X_iret rfl (congrArg (fun q => some (Value.int q)) (by first | (simp [aSet, c_1, nI_cl (show i < 2 ^ 31 by omega), c_2, c_3, c_6, c_7, c_8, xl_1_0, xl_1_1, xl_2_0, xl_2_1, xl_2_2, xl_3_0, xl_3_1, xl_3_2, xl_3_3]; done) | (exfalso; simp_all; done) | (clear hTs hR hK; simp_all [aSet, nI_cl (show i < 2 ^ 31 by omega)]; done))) (xle_of (congrArg (xm G xYf) (by first | (simp [c_1, nI_cl (show i < 2 ^ 31 by omega), c_2, c_3, c_6, c_7, c_8]; done) | (exfalso; simp_all; done)))) d_X_set_115
            ·
              refine X_aload d_X_set_97 rfl ?_
              refine X_getI (v := I (17 + 2 * i) 4) fg_X_146 (yH xYok_f (show i < 5 by omega)) rfl (rfl) d_X_set_99 ?_
              refine X_istore d_X_set_102 (by decide) [1, 2, 3, 4, 5, 0] (L' := [(0, .ref (xg G 0)), (1, .int (nI i)), (2, .int what), (3, .int v), (4, .ref (xg G (17 + 2 * i))), (5, .int (I (17 + 2 * i) 4))]) rfl ?_
              refine X_aload d_X_set_104 rfl ?_
              refine X_iload_n d_X_set_106 rfl rfl ?_
              refine X_putI fp_X_146 (yH xYok_f (show i < 5 by omega)) rfl d_X_set_107 ?_
              refine X_goto (tgt := 116) d_X_set_110 (by decide) ?_
              refine X_iload d_X_set_116 rfl ?_
              exact X_iret rfl (congrArg (fun q => some (Value.int q)) (by first | (simp [aSet, c_1, nI_cl (show i < 2 ^ 31 by omega), c_2, c_3, c_6, c_7, c_8, xl_1_0, xl_1_1, xl_2_0, xl_2_1, xl_2_2, xl_3_0, xl_3_1, xl_3_2, xl_3_3]; done) | (exfalso; simp_all; done) | (clear hTs hR hK; simp_all [aSet, nI_cl (show i < 2 ^ 31 by omega)]; done))) (xle_of (congrArg (xm G xYf) (by first | (simp [c_1, nI_cl (show i < 2 ^ 31 by omega), c_2, c_3, c_6, c_7, c_8]; done) | (exfalso; simp_all; done)))) d_X_set_118
        ·
          refine X_aload d_X_set_66 rfl ?_
          refine X_getI (v := I (17 + 2 * i) 3) fg_X_143 (yH xYok_f (show i < 5 by omega)) rfl (rfl) d_X_set_68 ?_
          refine X_istore d_X_set_71 (by decide) [1, 2, 3, 4, 5, 0] (L' := [(0, .ref (xg G 0)), (1, .int (nI i)), (2, .int what), (3, .int v), (4, .ref (xg G (17 + 2 * i))), (5, .int (I (17 + 2 * i) 3))]) rfl ?_
          refine X_aload d_X_set_73 rfl ?_
          refine X_iload_n d_X_set_75 rfl rfl ?_
          refine X_putI fp_X_143 (yH xYok_f (show i < 5 by omega)) rfl d_X_set_76 ?_
          refine X_goto (tgt := 116) d_X_set_79 (by decide) ?_
          refine X_iload d_X_set_116 rfl ?_
          exact X_iret rfl (congrArg (fun q => some (Value.int q)) (by first | (simp [aSet, c_1, nI_cl (show i < 2 ^ 31 by omega), c_2, c_3, c_6, xl_1_0, xl_1_1, xl_2_0, xl_2_1, xl_2_2, xl_3_0, xl_3_1, xl_3_2, xl_3_3]; done) | (exfalso; simp_all; done) | (clear hTs hR hK; simp_all [aSet, nI_cl (show i < 2 ^ 31 by omega)]; done))) (xle_of (congrArg (xm G xYf) (by first | (simp [c_1, nI_cl (show i < 2 ^ 31 by omega), c_2, c_3, c_6]; done) | (exfalso; simp_all; done)))) d_X_set_118
    ·
      refine X_iload_n d_X_set_22 rfl rfl ?_
      refine X_sipush (v := -9999) d_X_set_23 rfl ?_
      refine X_sipush (v := 9999) d_X_set_26 rfl ?_
      refine X_callS (v := .int (xb (xin v (-9999) 9999))) (rest := []) (c_X_within l G nn _ (by omega) v (-9999) 9999) lk_X_within ml_X_105 rfl (Nat.le_of_ble_eq_true rfl) (xRok (d' := d - 1) (by omega) (by decide)) ⟨Nat.le_refl _, Nat.le_refl _⟩ d_X_set_29 rfl ?_
      refine X_ifb_eq (tgt := 51) d_X_set_32 (by decide) (fun c_9 => ?_) (fun c_9 => ?_)
      ·
        refine X_iload_n d_X_set_51 rfl rfl ?_
        refine X_iconst (v := 1) d_X_set_52 rfl ?_
        refine X_icmp_ne (tgt := 82) d_X_set_53 (by decide) (fun c_10 => ?_) (fun c_10 => ?_)
        ·
          refine X_iload_n d_X_set_82 rfl rfl ?_
          refine X_iconst (v := 2) d_X_set_83 rfl ?_
          refine X_icmp_ne (tgt := 113) d_X_set_84 (by decide) (fun c_11 => ?_) (fun c_11 => ?_)
          ·
            refine X_ldc cs_X_149 d_X_set_113 ?_
            exact X_iret rfl (congrArg (fun q => some (Value.int q)) (by first | (simp [aSet, c_1, nI_cl (show i < 2 ^ 31 by omega), c_2, c_9, c_10, c_11, xl_1_0, xl_1_1, xl_2_0, xl_2_1, xl_2_2, xl_3_0, xl_3_1, xl_3_2, xl_3_3]; done) | (exfalso; simp_all; done) | (clear hTs hR hK; simp_all [aSet, nI_cl (show i < 2 ^ 31 by omega)]; done))) (xle_of (congrArg (xm G xYf) (by first | (simp [c_1, nI_cl (show i < 2 ^ 31 by omega), c_2, c_9, c_10, c_11]; done) | (exfalso; simp_all; done)))) d_X_set_115
          ·
            refine X_iload_n d_X_set_87 rfl rfl ?_
            refine X_iconst (v := 0) d_X_set_88 rfl ?_
            refine X_bipush (v := 99) d_X_set_89 rfl ?_
            refine X_callS (v := .int (xb (xin v 0 99))) (rest := []) (c_X_within l G nn _ (by omega) v 0 99) lk_X_within ml_X_105 rfl (Nat.le_of_ble_eq_true rfl) (xRok (d' := d - 1) (by omega) (by decide)) ⟨Nat.le_refl _, Nat.le_refl _⟩ d_X_set_91 rfl ?_
            refine X_ifb_eq (tgt := 113) d_X_set_94 (by decide) (fun c_12 => ?_) (fun c_12 => ?_)
            ·
              refine X_ldc cs_X_149 d_X_set_113 ?_
              exact X_iret rfl (congrArg (fun q => some (Value.int q)) (by first | (simp [aSet, c_1, nI_cl (show i < 2 ^ 31 by omega), c_2, c_9, c_10, c_11, c_12, xl_1_0, xl_1_1, xl_2_0, xl_2_1, xl_2_2, xl_3_0, xl_3_1, xl_3_2, xl_3_3]; done) | (exfalso; simp_all; done) | (clear hTs hR hK; simp_all [aSet, nI_cl (show i < 2 ^ 31 by omega)]; done))) (xle_of (congrArg (xm G xYf) (by first | (simp [c_1, nI_cl (show i < 2 ^ 31 by omega), c_2, c_9, c_10, c_11, c_12]; done) | (exfalso; simp_all; done)))) d_X_set_115
            ·
              refine X_aload d_X_set_97 rfl ?_
              refine X_getI (v := I (17 + 2 * i) 4) fg_X_146 (yH xYok_f (show i < 5 by omega)) rfl (rfl) d_X_set_99 ?_
              refine X_istore d_X_set_102 (by decide) [1, 2, 3, 4, 5, 0] (L' := [(0, .ref (xg G 0)), (1, .int (nI i)), (2, .int what), (3, .int v), (4, .ref (xg G (17 + 2 * i))), (5, .int (I (17 + 2 * i) 4))]) rfl ?_
              refine X_aload d_X_set_104 rfl ?_
              refine X_iload_n d_X_set_106 rfl rfl ?_
              refine X_putI fp_X_146 (yH xYok_f (show i < 5 by omega)) rfl d_X_set_107 ?_
              refine X_goto (tgt := 116) d_X_set_110 (by decide) ?_
              refine X_iload d_X_set_116 rfl ?_
              exact X_iret rfl (congrArg (fun q => some (Value.int q)) (by first | (simp [aSet, c_1, nI_cl (show i < 2 ^ 31 by omega), c_2, c_9, c_10, c_11, c_12, xl_1_0, xl_1_1, xl_2_0, xl_2_1, xl_2_2, xl_3_0, xl_3_1, xl_3_2, xl_3_3]; done) | (exfalso; simp_all; done) | (clear hTs hR hK; simp_all [aSet, nI_cl (show i < 2 ^ 31 by omega)]; done))) (xle_of (congrArg (xm G xYf) (by first | (simp [c_1, nI_cl (show i < 2 ^ 31 by omega), c_2, c_9, c_10, c_11, c_12]; done) | (exfalso; simp_all; done)))) d_X_set_118
        ·
          refine X_iload_n d_X_set_56 rfl rfl ?_
          refine X_iconst (v := 0) d_X_set_57 rfl ?_
          refine X_bipush (v := 9) d_X_set_58 rfl ?_
          refine X_callS (v := .int (xb (xin v 0 9))) (rest := []) (c_X_within l G nn _ (by omega) v 0 9) lk_X_within ml_X_105 rfl (Nat.le_of_ble_eq_true rfl) (xRok (d' := d - 1) (by omega) (by decide)) ⟨Nat.le_refl _, Nat.le_refl _⟩ d_X_set_60 rfl ?_
          refine X_ifb_eq (tgt := 82) d_X_set_63 (by decide) (fun c_13 => ?_) (fun c_13 => ?_)
          ·
            refine X_iload_n d_X_set_82 rfl rfl ?_
            refine X_iconst (v := 2) d_X_set_83 rfl ?_
            refine X_icmp_ne (tgt := 113) d_X_set_84 (by decide) (fun c_14 => ?_) (fun c_14 => ?_)
            ·
              refine X_ldc cs_X_149 d_X_set_113 ?_
              exact X_iret rfl (congrArg (fun q => some (Value.int q)) (by first | (simp [aSet, c_1, nI_cl (show i < 2 ^ 31 by omega), c_2, c_9, c_10, c_13, c_14, xl_1_0, xl_1_1, xl_2_0, xl_2_1, xl_2_2, xl_3_0, xl_3_1, xl_3_2, xl_3_3]; done) | (exfalso; simp_all; done) | (clear hTs hR hK; simp_all [aSet, nI_cl (show i < 2 ^ 31 by omega)]; done))) (xle_of (congrArg (xm G xYf) (by first | (simp [c_1, nI_cl (show i < 2 ^ 31 by omega), c_2, c_9, c_10, c_13, c_14]; done) | (exfalso; simp_all; done)))) d_X_set_115
            ·
              refine X_iload_n d_X_set_87 rfl rfl ?_
              refine X_iconst (v := 0) d_X_set_88 rfl ?_
              refine X_bipush (v := 99) d_X_set_89 rfl ?_
              refine X_callS (v := .int (xb (xin v 0 99))) (rest := []) (c_X_within l G nn _ (by omega) v 0 99) lk_X_within ml_X_105 rfl (Nat.le_of_ble_eq_true rfl) (xRok (d' := d - 1) (by omega) (by decide)) ⟨Nat.le_refl _, Nat.le_refl _⟩ d_X_set_91 rfl ?_
              refine X_ifb_eq (tgt := 113) d_X_set_94 (by decide) (fun c_15 => ?_) (fun c_15 => ?_)
              ·
                refine X_ldc cs_X_149 d_X_set_113 ?_
                exact X_iret rfl (congrArg (fun q => some (Value.int q)) (by first | (simp [aSet, c_1, nI_cl (show i < 2 ^ 31 by omega), c_2, c_9, c_10, c_13, c_14, c_15, xl_1_0, xl_1_1, xl_2_0, xl_2_1, xl_2_2, xl_3_0, xl_3_1, xl_3_2, xl_3_3]; done) | (exfalso; simp_all; done) | (clear hTs hR hK; simp_all [aSet, nI_cl (show i < 2 ^ 31 by omega)]; done))) (xle_of (congrArg (xm G xYf) (by first | (simp [c_1, nI_cl (show i < 2 ^ 31 by omega), c_2, c_9, c_10, c_13, c_14, c_15]; done) | (exfalso; simp_all; done)))) d_X_set_115
              ·
                refine X_aload d_X_set_97 rfl ?_
                refine X_getI (v := I (17 + 2 * i) 4) fg_X_146 (yH xYok_f (show i < 5 by omega)) rfl (rfl) d_X_set_99 ?_
                refine X_istore d_X_set_102 (by decide) [1, 2, 3, 4, 5, 0] (L' := [(0, .ref (xg G 0)), (1, .int (nI i)), (2, .int what), (3, .int v), (4, .ref (xg G (17 + 2 * i))), (5, .int (I (17 + 2 * i) 4))]) rfl ?_
                refine X_aload d_X_set_104 rfl ?_
                refine X_iload_n d_X_set_106 rfl rfl ?_
                refine X_putI fp_X_146 (yH xYok_f (show i < 5 by omega)) rfl d_X_set_107 ?_
                refine X_goto (tgt := 116) d_X_set_110 (by decide) ?_
                refine X_iload d_X_set_116 rfl ?_
                exact X_iret rfl (congrArg (fun q => some (Value.int q)) (by first | (simp [aSet, c_1, nI_cl (show i < 2 ^ 31 by omega), c_2, c_9, c_10, c_13, c_14, c_15, xl_1_0, xl_1_1, xl_2_0, xl_2_1, xl_2_2, xl_3_0, xl_3_1, xl_3_2, xl_3_3]; done) | (exfalso; simp_all; done) | (clear hTs hR hK; simp_all [aSet, nI_cl (show i < 2 ^ 31 by omega)]; done))) (xle_of (congrArg (xm G xYf) (by first | (simp [c_1, nI_cl (show i < 2 ^ 31 by omega), c_2, c_9, c_10, c_13, c_14, c_15]; done) | (exfalso; simp_all; done)))) d_X_set_118
          ·
            refine X_aload d_X_set_66 rfl ?_
            refine X_getI (v := I (17 + 2 * i) 3) fg_X_143 (yH xYok_f (show i < 5 by omega)) rfl (rfl) d_X_set_68 ?_
            refine X_istore d_X_set_71 (by decide) [1, 2, 3, 4, 5, 0] (L' := [(0, .ref (xg G 0)), (1, .int (nI i)), (2, .int what), (3, .int v), (4, .ref (xg G (17 + 2 * i))), (5, .int (I (17 + 2 * i) 3))]) rfl ?_
            refine X_aload d_X_set_73 rfl ?_
            refine X_iload_n d_X_set_75 rfl rfl ?_
            refine X_putI fp_X_143 (yH xYok_f (show i < 5 by omega)) rfl d_X_set_76 ?_
            refine X_goto (tgt := 116) d_X_set_79 (by decide) ?_
            refine X_iload d_X_set_116 rfl ?_
            exact X_iret rfl (congrArg (fun q => some (Value.int q)) (by first | (simp [aSet, c_1, nI_cl (show i < 2 ^ 31 by omega), c_2, c_9, c_10, c_13, xl_1_0, xl_1_1, xl_2_0, xl_2_1, xl_2_2, xl_3_0, xl_3_1, xl_3_2, xl_3_3]; done) | (exfalso; simp_all; done) | (clear hTs hR hK; simp_all [aSet, nI_cl (show i < 2 ^ 31 by omega)]; done))) (xle_of (congrArg (xm G xYf) (by first | (simp [c_1, nI_cl (show i < 2 ^ 31 by omega), c_2, c_9, c_10, c_13]; done) | (exfalso; simp_all; done)))) d_X_set_118
      ·
        refine X_aload d_X_set_35 rfl ?_
        refine X_getI (v := I (17 + 2 * i) 2) fg_X_140 (yH xYok_f (show i < 5 by omega)) rfl (rfl) d_X_set_37 ?_
        refine X_istore d_X_set_40 (by decide) [1, 2, 3, 4, 5, 0] (L' := [(0, .ref (xg G 0)), (1, .int (nI i)), (2, .int what), (3, .int v), (4, .ref (xg G (17 + 2 * i))), (5, .int (I (17 + 2 * i) 2))]) rfl ?_
        refine X_aload d_X_set_42 rfl ?_
        refine X_iload_n d_X_set_44 rfl rfl ?_
        refine X_putI fp_X_140 (yH xYok_f (show i < 5 by omega)) rfl d_X_set_45 ?_
        refine X_goto (tgt := 116) d_X_set_48 (by decide) ?_
        refine X_iload d_X_set_116 rfl ?_
        exact X_iret rfl (congrArg (fun q => some (Value.int q)) (by first | (simp [aSet, c_1, nI_cl (show i < 2 ^ 31 by omega), c_2, c_9, xl_1_0, xl_1_1, xl_2_0, xl_2_1, xl_2_2, xl_3_0, xl_3_1, xl_3_2, xl_3_3]; done) | (exfalso; simp_all; done) | (clear hTs hR hK; simp_all [aSet, nI_cl (show i < 2 ^ 31 by omega)]; done))) (xle_of (congrArg (xm G xYf) (by first | (simp [c_1, nI_cl (show i < 2 ^ 31 by omega), c_2, c_9]; done) | (exfalso; simp_all; done)))) d_X_set_118
  ·
    refine X_ldc cs_X_139 d_X_set_8 ?_
    exact X_iret rfl (congrArg (fun q => some (Value.int q)) (by first | (simp [aSet, c_1, xl_1_0, xl_1_1, xl_2_0, xl_2_1, xl_2_2, xl_3_0, xl_3_1, xl_3_2, xl_3_3]; done) | (exfalso; simp_all; done) | (clear hTs hR hK; simp_all [aSet]; done))) (xle_of (congrArg (xm G xYf) (by first | (simp [c_1]; done) | (exfalso; simp_all; done)))) d_X_set_10
