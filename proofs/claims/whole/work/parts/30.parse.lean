theorem rRun_n {P : Int32 → Bool} (hP : P (-1) = false) (g : Nat → Int32) (n : Nat) : ∀ k p, p ≤ n → rRun P g n k p ≤ n
  | 0, _, h => h
  | k + 1, p, h => by
    rw [rRun]
    split
    · rename_i hb
      have : p < n := by
        rcases Nat.lt_or_ge p n with q | q
        · exact q
        · rw [rB, if_neg (by omega), hP] at hb; exact absurd hb (by decide)
      exact rRun_n hP g n k (p + 1) this
    · exact h
theorem vNx_n (g : Nat → Int32) {n q : Nat} (h : q ≤ n) : vNx g n q ≤ n := by
  unfold vNx
  split
  · exact h
  · split
    · exact rRun_n rfl g n 160 q h
    · split
      · exact rRun_n rfl g n 160 q h
      · rename_i hb _ _
        rcases Nat.lt_or_ge q n with z | z
        · exact z
        · rw [rB, if_neg (by omega)] at hb; exact absurd (show (-1 : Int32) < 0 from by decide) hb
-- what reading does to the numbers: n bytes, o that stand open
def pOK (n o : Nat) (I : xI) : Prop := n ≤ 160 ∧ I 11 2 = nI n ∧ (∃ p, p ≤ n ∧ I 11 3 = nI p) ∧ I 11 7 = nI o
def tSh (t : Nat) : Prop := xYf t = some (sText t) ∧ xYf (t + 1) = some (sInts 160) ∧ xYf (t + 2) = some (sInts 3) ∧ 15 ≤ t
def iAdv (I : xI) : xI := xup I 11 (vAd (I 11) (I 12) (I 11 2).toNatClampNeg (rRun bBlank (I 12) (I 11 2).toNatClampNeg 160 (I 11 3).toNatClampNeg) (I 11 6) (I 11 7) (I 11 8))
def iFail (I : xI) : xI := xw I 11 8 (rFail (I 11 8) (I 11 4))
def iInc (I : xI) : xI := xw I 11 7 (I 11 7 + 1)
def iDec (I : xI) : xI := xw I 11 7 (I 11 7 - 1)
def iAdd (t : Nat) (v : Int32) (I : xI) : xI := if 0 ≤ I t 3 ∧ I t 3 < 160 then xw (xw I (t + 1) (I t 3).toNatClampNeg v) t 3 (I t 3 + 1) else I
def iEnd (t : Nat) (I : xI) : xI := if 0 ≤ I t 4 ∧ I t 4 < 3 then xw (xw I (t + 2) (I t 4).toNatClampNeg (I t 3)) t 4 (I t 4 + 1) else I
def iClr (t : Nat) (I : xI) : xI := xw (xw I t 3 0) t 4 0
def bAt (w : Int32) (I : xI) : Bool := !decide (0 ≤ I 11 8) && decide (I 11 5 = w)
def iOpn (I : xI) : xI := if 5 ≤ I 11 7 then iFail I else iAdv (iInc I)
def iTok (w : Int32) (I : xI) : xI := if I 11 5 = w then I else iFail I
def iExp (w : Int32) (I : xI) : xI := if 0 ≤ iTok w I 11 8 then iTok w I else iAdv (iTok w I)
theorem vAd_r (f g : Nat → Int32) (n q : Nat) (nu op fa : Int32) : vAd f g n q nu op fa 2 = f 2 ∧ vAd f g n q nu op fa 3 = nI (vNx g n q) ∧ vAd f g n q nu op fa 7 = op := ⟨rQ_2 _ _ _ _ _ _ _, rQ_3 _ _ _ _ _ _ _, rQ_7 _ _ _ _ _ _ _⟩
theorem pOK_adv {n o : Nat} {I : xI} (h : pOK n o I) : pOK n o (iAdv I) := by
  obtain ⟨hn, h2, ⟨p, hp, h3⟩, h7⟩ := h
  unfold iAdv
  rw [h2, h3, nI_cl (show n < 2 ^ 31 by omega), nI_cl (show p < 2 ^ 31 by omega)]
  refine ⟨hn, ?_, ⟨vNx (I 12) n (rRun bBlank (I 12) n 160 p), vNx_n _ (rRun_n rfl _ _ _ _ hp), ?_⟩, ?_⟩
  · rw [xup_s, (vAd_r _ _ _ _ _ _ _).1]; exact h2
  · rw [xup_s, (vAd_r _ _ _ _ _ _ _).2.1]
  · rw [xup_s, (vAd_r _ _ _ _ _ _ _).2.2]; exact h7
theorem pOK_w {n o : Nat} {I : xI} (h : pOK n o I) (k : Nat) (v : Int32) (h2 : k ≠ 2) (h3 : k ≠ 3) (h7 : k ≠ 7) : pOK n o (xw I 11 k v) := by
  obtain ⟨hn, e2, ⟨p, hp, e3⟩, e7⟩ := h
  exact ⟨hn, by rw [xw_k _ _ _ (Ne.symm h2)]; exact e2, ⟨p, hp, by rw [xw_k _ _ _ (Ne.symm h3)]; exact e3⟩, by rw [xw_k _ _ _ (Ne.symm h7)]; exact e7⟩
theorem pOK_fail {n o : Nat} {I : xI} (h : pOK n o I) : pOK n o (iFail I) := pOK_w h 8 _ (by decide) (by decide) (by decide)
theorem pOK_7 {n o o' : Nat} {I : xI} {v : Int32} (h : pOK n o I) (hv : v = nI o') : pOK n o' (xw I 11 7 v) := by
  obtain ⟨hn, e2, ⟨p, hp, e3⟩, e7⟩ := h
  exact ⟨hn, by rw [xw_k _ _ _ (by decide)]; exact e2, ⟨p, hp, by rw [xw_k _ _ _ (by decide)]; exact e3⟩, by rw [xw_s]; exact hv⟩
theorem pOK_inc {n o : Nat} {I : xI} (h : pOK n o I) : pOK n (o + 1) (iInc I) := pOK_7 h (by rw [h.2.2.2, nI_1])
theorem pOK_dec {n o : Nat} {I : xI} (h : pOK n (o + 1) I) : pOK n o (iDec I) := pOK_7 h (by rw [h.2.2.2, nI_pred])
theorem pOK_r {n o : Nat} {I J : xI} (h : pOK n o I) (e : J 11 = I 11) : pOK n o J := by unfold pOK; rw [e]; exact h
theorem pOK_add {n o t : Nat} {I : xI} (h : pOK n o I) (ht : tSh t) (v : Int32) : pOK n o (iAdd t v I) := by
  have := ht.2.2.2
  unfold iAdd
  split
  · exact pOK_r h (by rw [xw_row _ _ _ (by omega), xw_row _ _ _ (by omega)])
  · exact h
theorem pOK_end {n o t : Nat} {I : xI} (h : pOK n o I) (ht : tSh t) : pOK n o (iEnd t I) := by
  have := ht.2.2.2
  unfold iEnd
  split
  · exact pOK_r h (by rw [xw_row _ _ _ (by omega), xw_row _ _ _ (by omega)])
  · exact h
theorem pOK_exp {n o : Nat} {I : xI} (h : pOK n o I) (w : Int32) : pOK n o (iExp w I) := by
  have h1 : pOK n o (iTok w I) := by
    unfold iTok
    split
    · exact h
    · exact pOK_fail h
  unfold iExp
  split
  · exact h1
  · exact pOK_adv h1
theorem mself (I : xI) : xup I 11 (rQ (I 11) (I 11 3) (I 11 4) (I 11 5) (I 11 6) (I 11 7) (I 11 8)) = I := by rw [rQ_self, xup_self]
theorem k_Reader_advance (l : Launch) (G : xG) {d : Nat} (nn : Nat) (hd : 3 ≤ d) {n o : Nat} (I : xI) (h : pOK n o I) : XM l G d y_Reader_advance b_Reader_advance 2 none 0 0 xK0 [.ref (xg G 11)] nn (xm G xYf I) none nn (xm G xYf (iAdv I)) := by
  obtain ⟨hn, h2, ⟨p, hp, h3⟩, h7⟩ := h
  have q := c_Reader_advance l G nn hd I (I 11) n h2 hn p (by omega) (Nat.le_trans (rRun_n rfl _ _ _ _ hp) hn) (I 11 4) (I 11 5) (I 11 6) (I 11 7) (I 11 8)
  rw [← h3, mself] at q
  have e : iAdv I = xup I 11 (vAd (I 11) (I 12) n (rRun bBlank (I 12) n 160 p) (I 11 6) (I 11 7) (I 11 8)) := by
    unfold iAdv
    rw [h2, h3, nI_cl (show n < 2 ^ 31 by omega), nI_cl (show p < 2 ^ 31 by omega)]
  rw [e]
  exact q
theorem k_Reader_failed (l : Launch) (G : xG) {d : Nat} (nn : Nat) (hd : 1 ≤ d) (I : xI) : XM l G d y_Reader_failed b_Reader_failed 1 (some .boolean) 0 0 xK0 [.ref (xg G 11)] nn (xm G xYf I) (some (.int (xb (decide (0 ≤ I 11 8))))) nn (xm G xYf I) := by
  have q := c_Reader_failed l G nn hd I (I 11) (I 11 3) (I 11 4) (I 11 5) (I 11 6) (I 11 7) (I 11 8)
  rw [mself] at q
  exact q
theorem k_Reader_at (l : Launch) (G : xG) {d : Nat} (nn : Nat) (hd : 2 ≤ d) (I : xI) (w : Int32) : XM l G d y_Reader_at b_Reader_at 2 (some .boolean) 0 0 xK0 [.ref (xg G 11), .int w] nn (xm G xYf I) (some (.int (xb (bAt w I)))) nn (xm G xYf I) := by
  have q := c_Reader_at l G nn hd I (I 11) (I 11 3) (I 11 4) (I 11 5) (I 11 6) (I 11 7) (I 11 8) w
  rw [mself] at q
  exact q
theorem k_Reader_fail (l : Launch) (G : xG) {d : Nat} (nn : Nat) (hd : 2 ≤ d) (I : xI) : XM l G d y_Reader_fail b_Reader_fail 1 none 0 0 xK0 [.ref (xg G 11)] nn (xm G xYf I) none nn (xm G xYf (iFail I)) := by
  have q := c_Reader_fail l G nn hd I (I 11) (I 11 3) (I 11 4) (I 11 5) (I 11 6) (I 11 7) (I 11 8)
  rw [mself, ← rQs_8, rQ_self] at q
  exact q
theorem k_Text_clear (l : Launch) (G : xG) {d : Nat} (nn : Nat) (hd : 1 ≤ d) (t : Nat) (hs : tSh t) (I : xI) : XM l G d y_Text_clear b_Text_clear 1 (none) 0 0 xK0 [.ref (xg G t)] nn (xm G xYf I) (none) nn (xm G xYf (iClr t I)) := by
  have h15 := hs.2.2.2
  refine XM.of (by decide) (Nat.le_of_ble_eq_true rfl) (L := [(0, .ref (xg G t))]) rfl ?_
  refine X_aload_n d_Text_clear_0 rfl rfl ?_
  refine X_iconst (v := 0) d_Text_clear_1 rfl ?_
  refine X_putI fp_Text_21 hs.1 rfl d_Text_clear_2 ?_
  refine X_aload_n d_Text_clear_5 rfl rfl ?_
  refine X_iconst (v := 0) d_Text_clear_6 rfl ?_
  refine X_putI fp_Text_25 hs.1 rfl d_Text_clear_7 ?_
  exact X_vret rfl rfl (xle_of (congrArg (xm G xYf) (by rfl))) d_Text_clear_10
theorem k_Text_add (l : Launch) (G : xG) {d : Nat} (nn : Nat) (hd : 1 ≤ d) (t : Nat) (hs : tSh t) (I : xI) (v : Int32) : XM l G d y_Text_add b_Text_add 2 (none) 0 0 xK0 [.ref (xg G t), .int v] nn (xm G xYf I) (none) nn (xm G xYf (iAdd t v I)) := by
  have h15 := hs.2.2.2
  refine XM.of (by decide) (Nat.le_of_ble_eq_true rfl) (L := [(0, .ref (xg G t)), (1, .int v)]) rfl ?_
  refine X_aload_n d_Text_add_0 rfl rfl ?_
  refine X_getI (v := I t 3) fg_Text_21 hs.1 rfl (rfl) d_Text_add_1 ?_
  refine X_if_lt (tgt := 39) d_Text_add_4 (by decide) (fun c_1 => ?_) (fun c_1 => ?_)
  ·
    exact X_vret rfl rfl (xle_of (congrArg (xm G xYf) (by simp only [iAdd, iEnd]; first | rw [if_pos ⟨by grind, by grind⟩] | rw [if_neg (by grind)]))) d_Text_add_39
  ·
    refine X_aload_n d_Text_add_7 rfl rfl ?_
    refine X_getI (v := I t 3) fg_Text_21 hs.1 rfl (rfl) d_Text_add_8 ?_
    refine X_aload_n d_Text_add_11 rfl rfl ?_
    refine X_getR (r := t + 1) fg_Text_9 hs.1 rfl d_Text_add_12 ?_
    refine X_alenI (v := 160) hs.2.1 rfl d_Text_add_15 ?_
    refine X_icmp_ge (tgt := 39) d_Text_add_16 (by decide) (fun c_2 => ?_) (fun c_2 => ?_)
    ·
      exact X_vret rfl rfl (xle_of (congrArg (xm G xYf) (by simp only [iAdd, iEnd]; first | rw [if_pos ⟨by grind, by grind⟩] | rw [if_neg (by grind)]))) d_Text_add_39
    ·
      refine X_aload_n d_Text_add_19 rfl rfl ?_
      refine X_getR (r := t + 1) fg_Text_9 hs.1 rfl d_Text_add_20 ?_
      refine X_aload_n d_Text_add_23 rfl rfl ?_
      refine X_getI (v := I t 3) fg_Text_21 hs.1 rfl (rfl) d_Text_add_24 ?_
      refine X_iload_n d_Text_add_27 rfl rfl ?_
      refine X_astI hs.2.1 (xvp (B := 160) (by grind) (by grind) (by decide)) d_Text_add_28 ?_
      refine X_aload_n d_Text_add_29 rfl rfl ?_
      refine X_dup d_Text_add_30 rfl ?_
      refine X_getI (v := I t 3) fg_Text_21 hs.1 rfl (xw_a _ _ _ _ (by omega)) d_Text_add_31 ?_
      refine X_iconst (v := 1) d_Text_add_34 rfl ?_
      refine X_iadd d_Text_add_35 ?_
      refine X_putI fp_Text_21 hs.1 rfl d_Text_add_36 ?_
      exact X_vret rfl rfl (xle_of (congrArg (xm G xYf) (by simp only [iAdd, iEnd]; first | rw [if_pos ⟨by grind, by grind⟩] | rw [if_neg (by grind)]))) d_Text_add_39
theorem k_Text_endPart (l : Launch) (G : xG) {d : Nat} (nn : Nat) (hd : 1 ≤ d) (t : Nat) (hs : tSh t) (I : xI) : XM l G d y_Text_endPart b_Text_endPart 1 (none) 0 0 xK0 [.ref (xg G t)] nn (xm G xYf I) (none) nn (xm G xYf (iEnd t I)) := by
  have h15 := hs.2.2.2
  refine XM.of (by decide) (Nat.le_of_ble_eq_true rfl) (L := [(0, .ref (xg G t))]) rfl ?_
  refine X_aload_n d_Text_endPart_0 rfl rfl ?_
  refine X_getI (v := I t 4) fg_Text_25 hs.1 rfl (rfl) d_Text_endPart_1 ?_
  refine X_if_lt (tgt := 42) d_Text_endPart_4 (by decide) (fun c_1 => ?_) (fun c_1 => ?_)
  ·
    exact X_vret rfl rfl (xle_of (congrArg (xm G xYf) (by simp only [iAdd, iEnd]; first | rw [if_pos ⟨by grind, by grind⟩] | rw [if_neg (by grind)]))) d_Text_endPart_42
  ·
    refine X_aload_n d_Text_endPart_7 rfl rfl ?_
    refine X_getI (v := I t 4) fg_Text_25 hs.1 rfl (rfl) d_Text_endPart_8 ?_
    refine X_aload_n d_Text_endPart_11 rfl rfl ?_
    refine X_getR (r := t + 2) fg_Text_15 hs.1 rfl d_Text_endPart_12 ?_
    refine X_alenI (v := 3) hs.2.2.1 rfl d_Text_endPart_15 ?_
    refine X_icmp_ge (tgt := 42) d_Text_endPart_16 (by decide) (fun c_2 => ?_) (fun c_2 => ?_)
    ·
      exact X_vret rfl rfl (xle_of (congrArg (xm G xYf) (by simp only [iAdd, iEnd]; first | rw [if_pos ⟨by grind, by grind⟩] | rw [if_neg (by grind)]))) d_Text_endPart_42
    ·
      refine X_aload_n d_Text_endPart_19 rfl rfl ?_
      refine X_getR (r := t + 2) fg_Text_15 hs.1 rfl d_Text_endPart_20 ?_
      refine X_aload_n d_Text_endPart_23 rfl rfl ?_
      refine X_getI (v := I t 4) fg_Text_25 hs.1 rfl (rfl) d_Text_endPart_24 ?_
      refine X_aload_n d_Text_endPart_27 rfl rfl ?_
      refine X_getI (v := I t 3) fg_Text_21 hs.1 rfl (rfl) d_Text_endPart_28 ?_
      refine X_astI hs.2.2.1 (xvp (B := 3) (by grind) (by grind) (by decide)) d_Text_endPart_31 ?_
      refine X_aload_n d_Text_endPart_32 rfl rfl ?_
      refine X_dup d_Text_endPart_33 rfl ?_
      refine X_getI (v := I t 4) fg_Text_25 hs.1 rfl (xw_a _ _ _ _ (by omega)) d_Text_endPart_34 ?_
      refine X_iconst (v := 1) d_Text_endPart_37 rfl ?_
      refine X_iadd d_Text_endPart_38 ?_
      refine X_putI fp_Text_25 hs.1 rfl d_Text_endPart_39 ?_
      exact X_vret rfl rfl (xle_of (congrArg (xm G xYf) (by simp only [iAdd, iEnd]; first | rw [if_pos ⟨by grind, by grind⟩] | rw [if_neg (by grind)]))) d_Text_endPart_42
def cF (l : Launch) (G : xG) (h : Nat) (y : MethodName) (b : ByteArray) (ml n o t : Nat) (F : xI → xI) : Prop := (∀ (d nn : Nat) (I : xI), h ≤ d → pOK n o I → XM l G d y b ml none 0 0 xK0 [.ref (xg G 11), .ref (xg G t)] nn (xm G xYf I) none nn (xm G xYf (F I))) ∧ ∀ I, pOK n o I → pOK n o (F I)
theorem pOK_o5 {n o : Nat} {I : xI} (h : pOK n o I) (c : I 11 7 < 5) (ho : o < 1000 := by omega) : o < 5 := by
  rw [h.2.2.2] at c
  exact (nI_ltI (b := 5) (by omega) (by decide)).mp c
theorem k_Reader_expect (l : Launch) (G : xG) {d : Nat} (nn : Nat) (hd : 4 ≤ d) {n o : Nat} (I : xI) (w : Int32) (h : pOK n o I) : XM l G d y_Reader_expect b_Reader_expect 2 (none) 0 0 xK0 [.ref (xg G 11), .int w] nn (xm G xYf I) (none) nn (xm G xYf (iExp w I)) := by
  refine XM.of (by decide) (Nat.le_of_ble_eq_true rfl) (L := [(0, .ref (xg G 11)), (1, .int w)]) rfl ?_
  refine X_aload_n d_Reader_expect_0 rfl rfl ?_
  refine X_getI (v := I 11 5) fg_Reader_74 (show xYf 11 = some (sReader 12 13) from rfl) rfl (rfl) d_Reader_expect_1 ?_
  refine X_iload_n d_Reader_expect_4 rfl rfl ?_
  refine X_icmp_eq (tgt := 12) d_Reader_expect_5 (by decide) (fun c_1 => ?_) (fun c_1 => ?_)
  ·
    refine X_aload_n d_Reader_expect_12 rfl rfl ?_
    refine X_callV (v := .int (xb (decide (0 ≤ I 11 8)))) (rest := []) (k_Reader_failed l G nn (by omega) I ) lk_Reader_failed ml_Reader_67 (xm_obj (show xYf 11 = some (sReader 12 13) from rfl)) rfl rfl (Nat.le_of_ble_eq_true rfl) (xRok (d' := d - 1) (by omega) (by decide)) ⟨Nat.le_refl _, Nat.le_refl _⟩ d_Reader_expect_13 rfl ?_
    refine X_ifb_ne (tgt := 23) d_Reader_expect_16 (by decide) (fun c_2 => ?_) (fun c_2 => ?_)
    ·
      exact X_vret rfl rfl (xle_of (congrArg (xm G xYf) (by have e : iTok w I = I := if_pos c_1; rw [iExp, e, if_pos (of_decide_eq_true c_2)]))) d_Reader_expect_23
    ·
      refine X_aload_n d_Reader_expect_19 rfl rfl ?_
      refine X_callVv (rest := []) (k_Reader_advance l G nn (by omega) I  h) lk_Reader_advance ml_Reader_53 (xm_obj (show xYf 11 = some (sReader 12 13) from rfl)) rfl rfl (Nat.le_of_ble_eq_true rfl) (xRok (d' := d - 1) (by omega) (by decide)) ⟨Nat.le_refl _, Nat.le_refl _⟩ d_Reader_expect_20 rfl ?_
      exact X_vret rfl rfl (xle_of (congrArg (xm G xYf) (by have e : iTok w I = I := if_pos c_1; rw [iExp, e, if_neg (of_decide_eq_false c_2)]))) d_Reader_expect_23
  ·
    refine X_aload_n d_Reader_expect_8 rfl rfl ?_
    refine X_callVv (rest := []) (k_Reader_fail l G nn (by omega) I ) lk_Reader_fail ml_Reader_77 (xm_obj (show xYf 11 = some (sReader 12 13) from rfl)) rfl rfl (Nat.le_of_ble_eq_true rfl) (xRok (d' := d - 1) (by omega) (by decide)) ⟨Nat.le_refl _, Nat.le_refl _⟩ d_Reader_expect_9 rfl ?_
    refine X_aload_n d_Reader_expect_12 rfl rfl ?_
    refine X_callV (v := .int (xb (decide (0 ≤ (iFail I) 11 8)))) (rest := []) (k_Reader_failed l G nn (by omega) (iFail I) ) lk_Reader_failed ml_Reader_67 (xm_obj (show xYf 11 = some (sReader 12 13) from rfl)) rfl rfl (Nat.le_of_ble_eq_true rfl) (xRok (d' := d - 1) (by omega) (by decide)) ⟨Nat.le_refl _, Nat.le_refl _⟩ d_Reader_expect_13 rfl ?_
    refine X_ifb_ne (tgt := 23) d_Reader_expect_16 (by decide) (fun c_3 => ?_) (fun c_3 => ?_)
    ·
      exact X_vret rfl rfl (xle_of (congrArg (xm G xYf) (by have e : iTok w I = iFail I := if_neg c_1; rw [iExp, e, if_pos (of_decide_eq_true c_3)]))) d_Reader_expect_23
    ·
      refine X_aload_n d_Reader_expect_19 rfl rfl ?_
      refine X_callVv (rest := []) (k_Reader_advance l G nn (by omega) (iFail I)  (pOK_fail h)) lk_Reader_advance ml_Reader_53 (xm_obj (show xYf 11 = some (sReader 12 13) from rfl)) rfl rfl (Nat.le_of_ble_eq_true rfl) (xRok (d' := d - 1) (by omega) (by decide)) ⟨Nat.le_refl _, Nat.le_refl _⟩ d_Reader_expect_20 rfl ?_
      exact X_vret rfl rfl (xle_of (congrArg (xm G xYf) (by have e : iTok w I = iFail I := if_neg c_1; rw [iExp, e, if_neg (of_decide_eq_false c_3)]))) d_Reader_expect_23
theorem k_Reader_opened (l : Launch) (G : xG) {d : Nat} (nn : Nat) (hd : 4 ≤ d) {n o : Nat} (I : xI) (h : pOK n o I) : XM l G d y_Reader_opened b_Reader_opened 1 (some .boolean) 0 0 xK0 [.ref (xg G 11)] nn (xm G xYf I) (some (.int (xb (decide (I 11 7 < 5))))) nn (xm G xYf (iOpn I)) := by
  refine XM.of (by decide) (Nat.le_of_ble_eq_true rfl) (L := [(0, .ref (xg G 11))]) rfl ?_
  refine X_aload_n d_Reader_opened_0 rfl rfl ?_
  refine X_getI (v := I 11 7) fg_Reader_47 (show xYf 11 = some (sReader 12 13) from rfl) rfl (rfl) d_Reader_opened_1 ?_
  refine X_iconst (v := 5) d_Reader_opened_4 rfl ?_
  refine X_icmp_lt (tgt := 14) d_Reader_opened_5 (by decide) (fun c_1 => ?_) (fun c_1 => ?_)
  ·
    refine X_aload_n d_Reader_opened_14 rfl rfl ?_
    refine X_dup d_Reader_opened_15 rfl ?_
    refine X_getI (v := I 11 7) fg_Reader_47 (show xYf 11 = some (sReader 12 13) from rfl) rfl (rfl) d_Reader_opened_16 ?_
    refine X_iconst (v := 1) d_Reader_opened_19 rfl ?_
    refine X_iadd d_Reader_opened_20 ?_
    refine X_putI fp_Reader_47 (show xYf 11 = some (sReader 12 13) from rfl) rfl d_Reader_opened_21 ?_
    refine X_aload_n d_Reader_opened_24 rfl rfl ?_
    refine X_callVv (rest := []) (k_Reader_advance l G nn (by omega) (iInc I)  (pOK_inc h)) lk_Reader_advance ml_Reader_53 (xm_obj (show xYf 11 = some (sReader 12 13) from rfl)) rfl rfl (Nat.le_of_ble_eq_true rfl) (xRok (d' := d - 1) (by omega) (by decide)) ⟨Nat.le_refl _, Nat.le_refl _⟩ d_Reader_opened_25 rfl ?_
    refine X_iconst (v := 1) d_Reader_opened_28 rfl ?_
    exact X_zret rfl rfl (congrArg (fun q => some (Value.int q)) (by simp [xb, c_1, Int32.not_le.mpr c_1])) (xle_of (congrArg (xm G xYf) (by unfold iOpn; first | rw [if_pos (by grind)] | rw [if_neg (by grind)]))) d_Reader_opened_29
  ·
    refine X_aload_n d_Reader_opened_8 rfl rfl ?_
    refine X_callVv (rest := []) (k_Reader_fail l G nn (by omega) I ) lk_Reader_fail ml_Reader_77 (xm_obj (show xYf 11 = some (sReader 12 13) from rfl)) rfl rfl (Nat.le_of_ble_eq_true rfl) (xRok (d' := d - 1) (by omega) (by decide)) ⟨Nat.le_refl _, Nat.le_refl _⟩ d_Reader_opened_9 rfl ?_
    refine X_iconst (v := 0) d_Reader_opened_12 rfl ?_
    exact X_zret rfl rfl (congrArg (fun q => some (Value.int q)) (by simp [xb, c_1, Int32.not_lt.mp c_1])) (xle_of (congrArg (xm G xYf) (by unfold iOpn; first | rw [if_pos (by grind)] | rw [if_neg (by grind)]))) d_Reader_opened_13
def iLop (sub : xI → xI) (t : Nat) (tok item : Int32) : Nat → xI → xI
  | 0, I => I
  | j + 1, I => if bAt tok I = true then iLop sub t tok item j (iAdd t item (sub (iAdv I))) else I
def iLev (sub : xI → xI) (t : Nat) (tok item : Int32) (I : xI) : xI := iLop sub t tok item 160 (sub I)
def iSop (sub : xI → xI) (t : Nat) : Nat → xI → xI
  | 0, I => I
  | j + 1, I => if bAt 43 I = true ∨ bAt 45 I = true then iSop sub t j (iAdd t (if I 11 5 = 43 then 20004 else 20005) (sub (iAdv I))) else I
def iSum (sub : xI → xI) (t : Nat) (I : xI) : xI := iSop sub t 160 (sub I)
theorem pOK_lop {n o t : Nat} (hs : tSh t) {sub : xI → xI} (hS : ∀ I, pOK n o I → pOK n o (sub I)) (tok item : Int32) : ∀ j I, pOK n o I → pOK n o (iLop sub t tok item j I)
  | 0, _, h => h
  | j + 1, I, h => by
    rw [iLop]
    split
    · exact pOK_lop hs hS tok item j _ (pOK_add (hS _ (pOK_adv h)) hs item)
    · exact h
theorem pOK_sop {n o t : Nat} (hs : tSh t) {sub : xI → xI} (hS : ∀ I, pOK n o I → pOK n o (sub I)) : ∀ j I, pOK n o I → pOK n o (iSop sub t j I)
  | 0, _, h => h
  | j + 1, I, h => by
    rw [iSop]
    split
    · exact pOK_sop hs hS j _ (pOK_add (hS _ (pOK_adv h)) hs _)
    · exact h
def Q_Reader_readTerm (l : Launch) (G : xG) (d nn t : Nat) (sub : xI → xI) (i : Nat) (I : xI) : Prop := XW l G (xR d 0 0) y_Reader_readTerm b_Reader_readTerm 3 none xK0 (xZ G nn (xm G xYf (iLop sub t 42 20006 (160 - i) I)) none 0 0) nn (xm G xYf I) 0 0 7 [(0, .ref (xg G 11)), (1, .ref (xg G t)), (2, .int (nI i))] []
theorem w_Reader_readTerm (l : Launch) (G : xG) {d : Nat} (nn : Nat) {n o t h : Nat} (hs : tSh t) (ho5 : o ≤ 5) {sub : xI → xI} (hS : cF l G h y_Reader_readOne b_Reader_readOne 2 n o t sub) (h3 : 3 ≤ h) (hd : h + 1 ≤ d) (i : Nat) (hi : i ≤ 160) (ih : i < 160 → ∀ I, pOK n o I → Q_Reader_readTerm l G d nn t sub (i + 1) I) (I : xI) (h : pOK n o I) : Q_Reader_readTerm l G d nn t sub i I := by
  unfold Q_Reader_readTerm
  refine X_iload_n d_Reader_readTerm_7 rfl rfl ?_
  refine X_sipush (v := 160) d_Reader_readTerm_8 rfl ?_
  refine X_icmp_ge (tgt := 45) d_Reader_readTerm_11 (by decide) (fun c_1 => ?_) (fun c_1 => ?_)
  ·
    have hz : 160 - i = 0 := by have := nI_done hi (by decide) c_1; omega
    rw [hz]
    exact X_vret rfl rfl (xle_rf _) d_Reader_readTerm_45
  ·
    refine X_aload_n d_Reader_readTerm_14 rfl rfl ?_
    refine X_bipush (v := 42) d_Reader_readTerm_15 rfl ?_
    refine X_callV (v := .int (xb (bAt 42 I))) (rest := []) (k_Reader_at l G nn (by omega) I 42) lk_Reader_at ml_Reader_83 (xm_obj (show xYf 11 = some (sReader 12 13) from rfl)) rfl rfl (Nat.le_of_ble_eq_true rfl) (xRok (d' := d - 1) (by omega) (by decide)) ⟨Nat.le_refl _, Nat.le_refl _⟩ d_Reader_readTerm_17 rfl ?_
    refine X_ifb_eq (tgt := 45) d_Reader_readTerm_20 (by decide) (fun c_2 => ?_) (fun c_2 => ?_)
    ·
      have hlt : i < 160 := nI_more hi (by decide) c_1
      have hz : 160 - i = (160 - (i + 1)) + 1 := by omega
      rw [hz, iLop, if_neg (by simp [c_2])]
      exact X_vret rfl rfl (xle_rf _) d_Reader_readTerm_45
    ·
      refine X_aload_n d_Reader_readTerm_23 rfl rfl ?_
      refine X_callVv (rest := []) (k_Reader_advance l G nn (by omega) I  h) lk_Reader_advance ml_Reader_53 (xm_obj (show xYf 11 = some (sReader 12 13) from rfl)) rfl rfl (Nat.le_of_ble_eq_true rfl) (xRok (d' := d - 1) (by omega) (by decide)) ⟨Nat.le_refl _, Nat.le_refl _⟩ d_Reader_readTerm_24 rfl ?_
      refine X_aload_n d_Reader_readTerm_27 rfl rfl ?_
      refine X_aload_n d_Reader_readTerm_28 rfl rfl ?_
      refine X_callVv (rest := []) (hS.1 _ nn (iAdv I) (by omega) (pOK_adv h)) lk_Reader_readOne ml_Reader_102 (xm_obj (show xYf 11 = some (sReader 12 13) from rfl)) rfl rfl (Nat.le_of_ble_eq_true rfl) (xRok (d' := d - 1) (by omega) (by decide)) ⟨Nat.le_refl _, Nat.le_refl _⟩ d_Reader_readTerm_29 rfl ?_
      refine X_aload_n d_Reader_readTerm_32 rfl rfl ?_
      refine X_sipush (v := 20006) d_Reader_readTerm_33 rfl ?_
      refine X_callVv (rest := []) (k_Text_add l G nn (by omega) t hs (sub (iAdv I)) 20006) lk_Text_add ml_Reader_87 (xm_obj hs.1) rfl rfl (Nat.le_of_ble_eq_true rfl) (xRok (d' := d - 1) (by omega) (by decide)) ⟨Nat.le_refl _, Nat.le_refl _⟩ d_Reader_readTerm_36 rfl ?_
      refine X_iinc d_Reader_readTerm_39 rfl (v := (nI i) + 1) rfl (by decide) [1, 2, 0] (L' := [(0, .ref (xg G 11)), (1, .ref (xg G t)), (2, .int ((nI i) + 1))]) rfl ?_
      refine X_goto (tgt := 7) d_Reader_readTerm_42 (by decide) ?_
      have hlt : i < 160 := nI_more hi (by decide) c_1
      have hz : 160 - i = (160 - (i + 1)) + 1 := by omega
      have key := ih hlt _ (pOK_add (hS.2 _ (pOK_adv h)) hs 20006)
      unfold Q_Reader_readTerm at key
      rw [hz, iLop, if_pos c_2, nI_1]
      exact key
theorem k_Reader_readTerm (l : Launch) (G : xG) {n o t h : Nat} (hs : tSh t) (ho5 : o ≤ 5) {sub : xI → xI} (hS : cF l G h y_Reader_readOne b_Reader_readOne 2 n o t sub) (h3 : 3 ≤ h) : cF l G (h + 1) y_Reader_readTerm b_Reader_readTerm 3 n o t (iLev sub t 42 20006) := by
  refine ⟨fun d nn I hd h => ?_, fun I h => pOK_lop hs hS.2 _ _ 160 _ (hS.2 _ h)⟩
  refine XM.of (by decide) (Nat.le_of_ble_eq_true rfl) (L := [(0, .ref (xg G 11)), (1, .ref (xg G t))]) rfl ?_
  refine X_aload_n d_Reader_readTerm_0 rfl rfl ?_
  refine X_aload_n d_Reader_readTerm_1 rfl rfl ?_
  refine X_callVv (rest := []) (hS.1 _ nn I (by omega) h) lk_Reader_readOne ml_Reader_102 (xm_obj (show xYf 11 = some (sReader 12 13) from rfl)) rfl rfl (Nat.le_of_ble_eq_true rfl) (xRok (d' := d - 1) (by omega) (by decide)) ⟨Nat.le_refl _, Nat.le_refl _⟩ d_Reader_readTerm_2 rfl ?_
  refine X_iconst (v := 0) d_Reader_readTerm_5 rfl ?_
  refine X_istore_n d_Reader_readTerm_6 rfl (by decide) [1, 2, 0] (L' := [(0, .ref (xg G 11)), (1, .ref (xg G t)), (2, .int 0)]) rfl ?_
  have hx := xloop (Q := fun i => ∀ I, pOK n o I → Q_Reader_readTerm l G d nn t sub i I) (T := 160) (fun i hi ih => w_Reader_readTerm l G nn hs ho5 hS h3 hd i hi ih) 0 (Nat.zero_le _) _ (hS.2 _ h)
  unfold Q_Reader_readTerm at hx
  exact hx
def Q_Reader_readSum (l : Launch) (G : xG) (d nn t : Nat) (sub : xI → xI) (i : Nat) (I : xI) : Prop := XW l G (xR d 0 0) y_Reader_readSum b_Reader_readSum 4 none xK0 (xZ G nn (xm G xYf (iSop sub t (160 - i) I)) none 0 0) nn (xm G xYf I) 0 0 7 [(0, .ref (xg G 11)), (1, .ref (xg G t)), (2, .int (nI i))] []
theorem w_Reader_readSum (l : Launch) (G : xG) {d : Nat} (nn : Nat) {n o t h : Nat} (hs : tSh t) (ho5 : o ≤ 5) {sub : xI → xI} (hS : cF l G h y_Reader_readTerm b_Reader_readTerm 3 n o t sub) (h3 : 3 ≤ h) (hd : h + 1 ≤ d) (i : Nat) (hi : i ≤ 160) (ih : i < 160 → ∀ I, pOK n o I → Q_Reader_readSum l G d nn t sub (i + 1) I) (I : xI) (h : pOK n o I) : Q_Reader_readSum l G d nn t sub i I := by
  unfold Q_Reader_readSum
  refine X_iload_n d_Reader_readSum_7 rfl rfl ?_
  refine X_sipush (v := 160) d_Reader_readSum_8 rfl ?_
  refine X_icmp_ge (tgt := 71) d_Reader_readSum_11 (by decide) (fun c_1 => ?_) (fun c_1 => ?_)
  ·
    have hz : 160 - i = 0 := by have := nI_done hi (by decide) c_1; omega
    rw [hz]
    exact X_vret rfl rfl (xle_rf _) d_Reader_readSum_71
  ·
    refine X_aload_n d_Reader_readSum_14 rfl rfl ?_
    refine X_bipush (v := 43) d_Reader_readSum_15 rfl ?_
    refine X_callV (v := .int (xb (bAt 43 I))) (rest := []) (k_Reader_at l G nn (by omega) I 43) lk_Reader_at ml_Reader_83 (xm_obj (show xYf 11 = some (sReader 12 13) from rfl)) rfl rfl (Nat.le_of_ble_eq_true rfl) (xRok (d' := d - 1) (by omega) (by decide)) ⟨Nat.le_refl _, Nat.le_refl _⟩ d_Reader_readSum_17 rfl ?_
    refine X_ifb_ne (tgt := 32) d_Reader_readSum_20 (by decide) (fun c_2 => ?_) (fun c_2 => ?_)
    ·
      refine X_aload_n d_Reader_readSum_32 rfl rfl ?_
      refine X_getI (v := I 11 5) fg_Reader_74 (show xYf 11 = some (sReader 12 13) from rfl) rfl (rfl) d_Reader_readSum_33 ?_
      refine X_bipush (v := 43) d_Reader_readSum_36 rfl ?_
      refine X_icmp_ne (tgt := 47) d_Reader_readSum_38 (by decide) (fun c_3 => ?_) (fun c_3 => ?_)
      ·
        refine X_sipush (v := 20005) d_Reader_readSum_47 rfl ?_
        refine X_istore_n d_Reader_readSum_50 rfl (by decide) [1, 2, 3, 0] (L' := [(0, .ref (xg G 11)), (1, .ref (xg G t)), (2, .int (nI i)), (3, .int 20005)]) rfl ?_
        refine X_aload_n d_Reader_readSum_51 rfl rfl ?_
        refine X_callVv (rest := []) (k_Reader_advance l G nn (by omega) I  h) lk_Reader_advance ml_Reader_53 (xm_obj (show xYf 11 = some (sReader 12 13) from rfl)) rfl rfl (Nat.le_of_ble_eq_true rfl) (xRok (d' := d - 1) (by omega) (by decide)) ⟨Nat.le_refl _, Nat.le_refl _⟩ d_Reader_readSum_52 rfl ?_
        refine X_aload_n d_Reader_readSum_55 rfl rfl ?_
        refine X_aload_n d_Reader_readSum_56 rfl rfl ?_
        refine X_callVv (rest := []) (hS.1 _ nn (iAdv I) (by omega) (pOK_adv h)) lk_Reader_readTerm ml_Reader_99 (xm_obj (show xYf 11 = some (sReader 12 13) from rfl)) rfl rfl (Nat.le_of_ble_eq_true rfl) (xRok (d' := d - 1) (by omega) (by decide)) ⟨Nat.le_refl _, Nat.le_refl _⟩ d_Reader_readSum_57 rfl ?_
        refine X_aload_n d_Reader_readSum_60 rfl rfl ?_
        refine X_iload_n d_Reader_readSum_61 rfl rfl ?_
        refine X_callVv (rest := []) (k_Text_add l G nn (by omega) t hs (sub (iAdv I)) 20005) lk_Text_add ml_Reader_87 (xm_obj hs.1) rfl rfl (Nat.le_of_ble_eq_true rfl) (xRok (d' := d - 1) (by omega) (by decide)) ⟨Nat.le_refl _, Nat.le_refl _⟩ d_Reader_readSum_62 rfl ?_
        refine X_iinc d_Reader_readSum_65 rfl (v := (nI i) + 1) rfl (by decide) [1, 2, 0, 3] (L' := [(0, .ref (xg G 11)), (1, .ref (xg G t)), (2, .int ((nI i) + 1)), (3, .int 20005)]) rfl ?_
        refine X_goto (tgt := 7) d_Reader_readSum_68 (by decide) ?_
        have hlt : i < 160 := nI_more hi (by decide) c_1
        have hz : 160 - i = (160 - (i + 1)) + 1 := by omega
        have key := ih hlt _ (pOK_add (hS.2 _ (pOK_adv h)) hs 20005)
        unfold Q_Reader_readSum at key
        refine X_sub [0, 1, 2] (L' := [(0, .ref (xg G 11)), (1, .ref (xg G t)), (2, .int ((nI i) + 1))]) rfl ?_
        rw [hz, iSop, if_pos (by simp [c_2]), if_neg c_3, nI_1]
        exact key
      ·
        refine X_sipush (v := 20004) d_Reader_readSum_41 rfl ?_
        refine X_goto (tgt := 50) d_Reader_readSum_44 (by decide) ?_
        refine X_istore_n d_Reader_readSum_50 rfl (by decide) [1, 2, 3, 0] (L' := [(0, .ref (xg G 11)), (1, .ref (xg G t)), (2, .int (nI i)), (3, .int 20004)]) rfl ?_
        refine X_aload_n d_Reader_readSum_51 rfl rfl ?_
        refine X_callVv (rest := []) (k_Reader_advance l G nn (by omega) I  h) lk_Reader_advance ml_Reader_53 (xm_obj (show xYf 11 = some (sReader 12 13) from rfl)) rfl rfl (Nat.le_of_ble_eq_true rfl) (xRok (d' := d - 1) (by omega) (by decide)) ⟨Nat.le_refl _, Nat.le_refl _⟩ d_Reader_readSum_52 rfl ?_
        refine X_aload_n d_Reader_readSum_55 rfl rfl ?_
        refine X_aload_n d_Reader_readSum_56 rfl rfl ?_
        refine X_callVv (rest := []) (hS.1 _ nn (iAdv I) (by omega) (pOK_adv h)) lk_Reader_readTerm ml_Reader_99 (xm_obj (show xYf 11 = some (sReader 12 13) from rfl)) rfl rfl (Nat.le_of_ble_eq_true rfl) (xRok (d' := d - 1) (by omega) (by decide)) ⟨Nat.le_refl _, Nat.le_refl _⟩ d_Reader_readSum_57 rfl ?_
        refine X_aload_n d_Reader_readSum_60 rfl rfl ?_
        refine X_iload_n d_Reader_readSum_61 rfl rfl ?_
        refine X_callVv (rest := []) (k_Text_add l G nn (by omega) t hs (sub (iAdv I)) 20004) lk_Text_add ml_Reader_87 (xm_obj hs.1) rfl rfl (Nat.le_of_ble_eq_true rfl) (xRok (d' := d - 1) (by omega) (by decide)) ⟨Nat.le_refl _, Nat.le_refl _⟩ d_Reader_readSum_62 rfl ?_
        refine X_iinc d_Reader_readSum_65 rfl (v := (nI i) + 1) rfl (by decide) [1, 2, 0, 3] (L' := [(0, .ref (xg G 11)), (1, .ref (xg G t)), (2, .int ((nI i) + 1)), (3, .int 20004)]) rfl ?_
        refine X_goto (tgt := 7) d_Reader_readSum_68 (by decide) ?_
        have hlt : i < 160 := nI_more hi (by decide) c_1
        have hz : 160 - i = (160 - (i + 1)) + 1 := by omega
        have key := ih hlt _ (pOK_add (hS.2 _ (pOK_adv h)) hs 20004)
        unfold Q_Reader_readSum at key
        refine X_sub [0, 1, 2] (L' := [(0, .ref (xg G 11)), (1, .ref (xg G t)), (2, .int ((nI i) + 1))]) rfl ?_
        rw [hz, iSop, if_pos (by simp [c_2]), if_pos c_3, nI_1]
        exact key
    ·
      refine X_aload_n d_Reader_readSum_23 rfl rfl ?_
      refine X_bipush (v := 45) d_Reader_readSum_24 rfl ?_
      refine X_callV (v := .int (xb (bAt 45 I))) (rest := []) (k_Reader_at l G nn (by omega) I 45) lk_Reader_at ml_Reader_83 (xm_obj (show xYf 11 = some (sReader 12 13) from rfl)) rfl rfl (Nat.le_of_ble_eq_true rfl) (xRok (d' := d - 1) (by omega) (by decide)) ⟨Nat.le_refl _, Nat.le_refl _⟩ d_Reader_readSum_26 rfl ?_
      refine X_ifb_eq (tgt := 71) d_Reader_readSum_29 (by decide) (fun c_4 => ?_) (fun c_4 => ?_)
      ·
        have hlt : i < 160 := nI_more hi (by decide) c_1
        have hz : 160 - i = (160 - (i + 1)) + 1 := by omega
        rw [hz, iSop, if_neg (by simp [c_2, c_4])]
        exact X_vret rfl rfl (xle_rf _) d_Reader_readSum_71
      ·
        refine X_aload_n d_Reader_readSum_32 rfl rfl ?_
        refine X_getI (v := I 11 5) fg_Reader_74 (show xYf 11 = some (sReader 12 13) from rfl) rfl (rfl) d_Reader_readSum_33 ?_
        refine X_bipush (v := 43) d_Reader_readSum_36 rfl ?_
        refine X_icmp_ne (tgt := 47) d_Reader_readSum_38 (by decide) (fun c_5 => ?_) (fun c_5 => ?_)
        ·
          refine X_sipush (v := 20005) d_Reader_readSum_47 rfl ?_
          refine X_istore_n d_Reader_readSum_50 rfl (by decide) [1, 2, 3, 0] (L' := [(0, .ref (xg G 11)), (1, .ref (xg G t)), (2, .int (nI i)), (3, .int 20005)]) rfl ?_
          refine X_aload_n d_Reader_readSum_51 rfl rfl ?_
          refine X_callVv (rest := []) (k_Reader_advance l G nn (by omega) I  h) lk_Reader_advance ml_Reader_53 (xm_obj (show xYf 11 = some (sReader 12 13) from rfl)) rfl rfl (Nat.le_of_ble_eq_true rfl) (xRok (d' := d - 1) (by omega) (by decide)) ⟨Nat.le_refl _, Nat.le_refl _⟩ d_Reader_readSum_52 rfl ?_
          refine X_aload_n d_Reader_readSum_55 rfl rfl ?_
          refine X_aload_n d_Reader_readSum_56 rfl rfl ?_
          refine X_callVv (rest := []) (hS.1 _ nn (iAdv I) (by omega) (pOK_adv h)) lk_Reader_readTerm ml_Reader_99 (xm_obj (show xYf 11 = some (sReader 12 13) from rfl)) rfl rfl (Nat.le_of_ble_eq_true rfl) (xRok (d' := d - 1) (by omega) (by decide)) ⟨Nat.le_refl _, Nat.le_refl _⟩ d_Reader_readSum_57 rfl ?_
          refine X_aload_n d_Reader_readSum_60 rfl rfl ?_
          refine X_iload_n d_Reader_readSum_61 rfl rfl ?_
          refine X_callVv (rest := []) (k_Text_add l G nn (by omega) t hs (sub (iAdv I)) 20005) lk_Text_add ml_Reader_87 (xm_obj hs.1) rfl rfl (Nat.le_of_ble_eq_true rfl) (xRok (d' := d - 1) (by omega) (by decide)) ⟨Nat.le_refl _, Nat.le_refl _⟩ d_Reader_readSum_62 rfl ?_
          refine X_iinc d_Reader_readSum_65 rfl (v := (nI i) + 1) rfl (by decide) [1, 2, 0, 3] (L' := [(0, .ref (xg G 11)), (1, .ref (xg G t)), (2, .int ((nI i) + 1)), (3, .int 20005)]) rfl ?_
          refine X_goto (tgt := 7) d_Reader_readSum_68 (by decide) ?_
          have hlt : i < 160 := nI_more hi (by decide) c_1
          have hz : 160 - i = (160 - (i + 1)) + 1 := by omega
          have key := ih hlt _ (pOK_add (hS.2 _ (pOK_adv h)) hs 20005)
          unfold Q_Reader_readSum at key
          refine X_sub [0, 1, 2] (L' := [(0, .ref (xg G 11)), (1, .ref (xg G t)), (2, .int ((nI i) + 1))]) rfl ?_
          rw [hz, iSop, if_pos (by simp [c_2, c_4]), if_neg c_5, nI_1]
          exact key
        ·
          refine X_sipush (v := 20004) d_Reader_readSum_41 rfl ?_
          refine X_goto (tgt := 50) d_Reader_readSum_44 (by decide) ?_
          refine X_istore_n d_Reader_readSum_50 rfl (by decide) [1, 2, 3, 0] (L' := [(0, .ref (xg G 11)), (1, .ref (xg G t)), (2, .int (nI i)), (3, .int 20004)]) rfl ?_
          refine X_aload_n d_Reader_readSum_51 rfl rfl ?_
          refine X_callVv (rest := []) (k_Reader_advance l G nn (by omega) I  h) lk_Reader_advance ml_Reader_53 (xm_obj (show xYf 11 = some (sReader 12 13) from rfl)) rfl rfl (Nat.le_of_ble_eq_true rfl) (xRok (d' := d - 1) (by omega) (by decide)) ⟨Nat.le_refl _, Nat.le_refl _⟩ d_Reader_readSum_52 rfl ?_
          refine X_aload_n d_Reader_readSum_55 rfl rfl ?_
          refine X_aload_n d_Reader_readSum_56 rfl rfl ?_
          refine X_callVv (rest := []) (hS.1 _ nn (iAdv I) (by omega) (pOK_adv h)) lk_Reader_readTerm ml_Reader_99 (xm_obj (show xYf 11 = some (sReader 12 13) from rfl)) rfl rfl (Nat.le_of_ble_eq_true rfl) (xRok (d' := d - 1) (by omega) (by decide)) ⟨Nat.le_refl _, Nat.le_refl _⟩ d_Reader_readSum_57 rfl ?_
          refine X_aload_n d_Reader_readSum_60 rfl rfl ?_
          refine X_iload_n d_Reader_readSum_61 rfl rfl ?_
          refine X_callVv (rest := []) (k_Text_add l G nn (by omega) t hs (sub (iAdv I)) 20004) lk_Text_add ml_Reader_87 (xm_obj hs.1) rfl rfl (Nat.le_of_ble_eq_true rfl) (xRok (d' := d - 1) (by omega) (by decide)) ⟨Nat.le_refl _, Nat.le_refl _⟩ d_Reader_readSum_62 rfl ?_
          refine X_iinc d_Reader_readSum_65 rfl (v := (nI i) + 1) rfl (by decide) [1, 2, 0, 3] (L' := [(0, .ref (xg G 11)), (1, .ref (xg G t)), (2, .int ((nI i) + 1)), (3, .int 20004)]) rfl ?_
          refine X_goto (tgt := 7) d_Reader_readSum_68 (by decide) ?_
          have hlt : i < 160 := nI_more hi (by decide) c_1
          have hz : 160 - i = (160 - (i + 1)) + 1 := by omega
          have key := ih hlt _ (pOK_add (hS.2 _ (pOK_adv h)) hs 20004)
          unfold Q_Reader_readSum at key
          refine X_sub [0, 1, 2] (L' := [(0, .ref (xg G 11)), (1, .ref (xg G t)), (2, .int ((nI i) + 1))]) rfl ?_
          rw [hz, iSop, if_pos (by simp [c_2, c_4]), if_pos c_5, nI_1]
          exact key
theorem k_Reader_readSum (l : Launch) (G : xG) {n o t h : Nat} (hs : tSh t) (ho5 : o ≤ 5) {sub : xI → xI} (hS : cF l G h y_Reader_readTerm b_Reader_readTerm 3 n o t sub) (h3 : 3 ≤ h) : cF l G (h + 1) y_Reader_readSum b_Reader_readSum 4 n o t (iSum sub t) := by
  refine ⟨fun d nn I hd h => ?_, fun I h => pOK_sop hs hS.2 160 _ (hS.2 _ h)⟩
  refine XM.of (by decide) (Nat.le_of_ble_eq_true rfl) (L := [(0, .ref (xg G 11)), (1, .ref (xg G t))]) rfl ?_
  refine X_aload_n d_Reader_readSum_0 rfl rfl ?_
  refine X_aload_n d_Reader_readSum_1 rfl rfl ?_
  refine X_callVv (rest := []) (hS.1 _ nn I (by omega) h) lk_Reader_readTerm ml_Reader_99 (xm_obj (show xYf 11 = some (sReader 12 13) from rfl)) rfl rfl (Nat.le_of_ble_eq_true rfl) (xRok (d' := d - 1) (by omega) (by decide)) ⟨Nat.le_refl _, Nat.le_refl _⟩ d_Reader_readSum_2 rfl ?_
  refine X_iconst (v := 0) d_Reader_readSum_5 rfl ?_
  refine X_istore_n d_Reader_readSum_6 rfl (by decide) [1, 2, 0] (L' := [(0, .ref (xg G 11)), (1, .ref (xg G t)), (2, .int 0)]) rfl ?_
  have hx := xloop (Q := fun i => ∀ I, pOK n o I → Q_Reader_readSum l G d nn t sub i I) (T := 160) (fun i hi ih => w_Reader_readSum l G nn hs ho5 hS h3 hd i hi ih) 0 (Nat.zero_le _) _ (hS.2 _ h)
  unfold Q_Reader_readSum at hx
  exact hx
def Q_Reader_readAnd (l : Launch) (G : xG) (d nn t : Nat) (sub : xI → xI) (i : Nat) (I : xI) : Prop := XW l G (xR d 0 0) y_Reader_readAnd b_Reader_readAnd 3 none xK0 (xZ G nn (xm G xYf (iLop sub t 132 20001 (160 - i) I)) none 0 0) nn (xm G xYf I) 0 0 7 [(0, .ref (xg G 11)), (1, .ref (xg G t)), (2, .int (nI i))] []
theorem w_Reader_readAnd (l : Launch) (G : xG) {d : Nat} (nn : Nat) {n o t h : Nat} (hs : tSh t) (ho5 : o ≤ 5) {sub : xI → xI} (hS : cF l G h y_Reader_readNot b_Reader_readNot 3 n o t sub) (h3 : 3 ≤ h) (hd : h + 1 ≤ d) (i : Nat) (hi : i ≤ 160) (ih : i < 160 → ∀ I, pOK n o I → Q_Reader_readAnd l G d nn t sub (i + 1) I) (I : xI) (h : pOK n o I) : Q_Reader_readAnd l G d nn t sub i I := by
  unfold Q_Reader_readAnd
  refine X_iload_n d_Reader_readAnd_7 rfl rfl ?_
  refine X_sipush (v := 160) d_Reader_readAnd_8 rfl ?_
  refine X_icmp_ge (tgt := 46) d_Reader_readAnd_11 (by decide) (fun c_1 => ?_) (fun c_1 => ?_)
  ·
    have hz : 160 - i = 0 := by have := nI_done hi (by decide) c_1; omega
    rw [hz]
    exact X_vret rfl rfl (xle_rf _) d_Reader_readAnd_46
  ·
    refine X_aload_n d_Reader_readAnd_14 rfl rfl ?_
    refine X_sipush (v := 132) d_Reader_readAnd_15 rfl ?_
    refine X_callV (v := .int (xb (bAt 132 I))) (rest := []) (k_Reader_at l G nn (by omega) I 132) lk_Reader_at ml_Reader_83 (xm_obj (show xYf 11 = some (sReader 12 13) from rfl)) rfl rfl (Nat.le_of_ble_eq_true rfl) (xRok (d' := d - 1) (by omega) (by decide)) ⟨Nat.le_refl _, Nat.le_refl _⟩ d_Reader_readAnd_18 rfl ?_
    refine X_ifb_eq (tgt := 46) d_Reader_readAnd_21 (by decide) (fun c_2 => ?_) (fun c_2 => ?_)
    ·
      have hlt : i < 160 := nI_more hi (by decide) c_1
      have hz : 160 - i = (160 - (i + 1)) + 1 := by omega
      rw [hz, iLop, if_neg (by simp [c_2])]
      exact X_vret rfl rfl (xle_rf _) d_Reader_readAnd_46
    ·
      refine X_aload_n d_Reader_readAnd_24 rfl rfl ?_
      refine X_callVv (rest := []) (k_Reader_advance l G nn (by omega) I  h) lk_Reader_advance ml_Reader_53 (xm_obj (show xYf 11 = some (sReader 12 13) from rfl)) rfl rfl (Nat.le_of_ble_eq_true rfl) (xRok (d' := d - 1) (by omega) (by decide)) ⟨Nat.le_refl _, Nat.le_refl _⟩ d_Reader_readAnd_25 rfl ?_
      refine X_aload_n d_Reader_readAnd_28 rfl rfl ?_
      refine X_aload_n d_Reader_readAnd_29 rfl rfl ?_
      refine X_callVv (rest := []) (hS.1 _ nn (iAdv I) (by omega) (pOK_adv h)) lk_Reader_readNot ml_Reader_90 (xm_obj (show xYf 11 = some (sReader 12 13) from rfl)) rfl rfl (Nat.le_of_ble_eq_true rfl) (xRok (d' := d - 1) (by omega) (by decide)) ⟨Nat.le_refl _, Nat.le_refl _⟩ d_Reader_readAnd_30 rfl ?_
      refine X_aload_n d_Reader_readAnd_33 rfl rfl ?_
      refine X_sipush (v := 20001) d_Reader_readAnd_34 rfl ?_
      refine X_callVv (rest := []) (k_Text_add l G nn (by omega) t hs (sub (iAdv I)) 20001) lk_Text_add ml_Reader_87 (xm_obj hs.1) rfl rfl (Nat.le_of_ble_eq_true rfl) (xRok (d' := d - 1) (by omega) (by decide)) ⟨Nat.le_refl _, Nat.le_refl _⟩ d_Reader_readAnd_37 rfl ?_
      refine X_iinc d_Reader_readAnd_40 rfl (v := (nI i) + 1) rfl (by decide) [1, 2, 0] (L' := [(0, .ref (xg G 11)), (1, .ref (xg G t)), (2, .int ((nI i) + 1))]) rfl ?_
      refine X_goto (tgt := 7) d_Reader_readAnd_43 (by decide) ?_
      have hlt : i < 160 := nI_more hi (by decide) c_1
      have hz : 160 - i = (160 - (i + 1)) + 1 := by omega
      have key := ih hlt _ (pOK_add (hS.2 _ (pOK_adv h)) hs 20001)
      unfold Q_Reader_readAnd at key
      rw [hz, iLop, if_pos c_2, nI_1]
      exact key
theorem k_Reader_readAnd (l : Launch) (G : xG) {n o t h : Nat} (hs : tSh t) (ho5 : o ≤ 5) {sub : xI → xI} (hS : cF l G h y_Reader_readNot b_Reader_readNot 3 n o t sub) (h3 : 3 ≤ h) : cF l G (h + 1) y_Reader_readAnd b_Reader_readAnd 3 n o t (iLev sub t 132 20001) := by
  refine ⟨fun d nn I hd h => ?_, fun I h => pOK_lop hs hS.2 _ _ 160 _ (hS.2 _ h)⟩
  refine XM.of (by decide) (Nat.le_of_ble_eq_true rfl) (L := [(0, .ref (xg G 11)), (1, .ref (xg G t))]) rfl ?_
  refine X_aload_n d_Reader_readAnd_0 rfl rfl ?_
  refine X_aload_n d_Reader_readAnd_1 rfl rfl ?_
  refine X_callVv (rest := []) (hS.1 _ nn I (by omega) h) lk_Reader_readNot ml_Reader_90 (xm_obj (show xYf 11 = some (sReader 12 13) from rfl)) rfl rfl (Nat.le_of_ble_eq_true rfl) (xRok (d' := d - 1) (by omega) (by decide)) ⟨Nat.le_refl _, Nat.le_refl _⟩ d_Reader_readAnd_2 rfl ?_
  refine X_iconst (v := 0) d_Reader_readAnd_5 rfl ?_
  refine X_istore_n d_Reader_readAnd_6 rfl (by decide) [1, 2, 0] (L' := [(0, .ref (xg G 11)), (1, .ref (xg G t)), (2, .int 0)]) rfl ?_
  have hx := xloop (Q := fun i => ∀ I, pOK n o I → Q_Reader_readAnd l G d nn t sub i I) (T := 160) (fun i hi ih => w_Reader_readAnd l G nn hs ho5 hS h3 hd i hi ih) 0 (Nat.zero_le _) _ (hS.2 _ h)
  unfold Q_Reader_readAnd at hx
  exact hx
def Q_Reader_readOr (l : Launch) (G : xG) (d nn t : Nat) (sub : xI → xI) (i : Nat) (I : xI) : Prop := XW l G (xR d 0 0) y_Reader_readOr b_Reader_readOr 3 none xK0 (xZ G nn (xm G xYf (iLop sub t 131 20000 (160 - i) I)) none 0 0) nn (xm G xYf I) 0 0 7 [(0, .ref (xg G 11)), (1, .ref (xg G t)), (2, .int (nI i))] []
theorem w_Reader_readOr (l : Launch) (G : xG) {d : Nat} (nn : Nat) {n o t h : Nat} (hs : tSh t) (ho5 : o ≤ 5) {sub : xI → xI} (hS : cF l G h y_Reader_readAnd b_Reader_readAnd 3 n o t sub) (h3 : 3 ≤ h) (hd : h + 1 ≤ d) (i : Nat) (hi : i ≤ 160) (ih : i < 160 → ∀ I, pOK n o I → Q_Reader_readOr l G d nn t sub (i + 1) I) (I : xI) (h : pOK n o I) : Q_Reader_readOr l G d nn t sub i I := by
  unfold Q_Reader_readOr
  refine X_iload_n d_Reader_readOr_7 rfl rfl ?_
  refine X_sipush (v := 160) d_Reader_readOr_8 rfl ?_
  refine X_icmp_ge (tgt := 46) d_Reader_readOr_11 (by decide) (fun c_1 => ?_) (fun c_1 => ?_)
  ·
    have hz : 160 - i = 0 := by have := nI_done hi (by decide) c_1; omega
    rw [hz]
    exact X_vret rfl rfl (xle_rf _) d_Reader_readOr_46
  ·
    refine X_aload_n d_Reader_readOr_14 rfl rfl ?_
    refine X_sipush (v := 131) d_Reader_readOr_15 rfl ?_
    refine X_callV (v := .int (xb (bAt 131 I))) (rest := []) (k_Reader_at l G nn (by omega) I 131) lk_Reader_at ml_Reader_83 (xm_obj (show xYf 11 = some (sReader 12 13) from rfl)) rfl rfl (Nat.le_of_ble_eq_true rfl) (xRok (d' := d - 1) (by omega) (by decide)) ⟨Nat.le_refl _, Nat.le_refl _⟩ d_Reader_readOr_18 rfl ?_
    refine X_ifb_eq (tgt := 46) d_Reader_readOr_21 (by decide) (fun c_2 => ?_) (fun c_2 => ?_)
    ·
      have hlt : i < 160 := nI_more hi (by decide) c_1
      have hz : 160 - i = (160 - (i + 1)) + 1 := by omega
      rw [hz, iLop, if_neg (by simp [c_2])]
      exact X_vret rfl rfl (xle_rf _) d_Reader_readOr_46
    ·
      refine X_aload_n d_Reader_readOr_24 rfl rfl ?_
      refine X_callVv (rest := []) (k_Reader_advance l G nn (by omega) I  h) lk_Reader_advance ml_Reader_53 (xm_obj (show xYf 11 = some (sReader 12 13) from rfl)) rfl rfl (Nat.le_of_ble_eq_true rfl) (xRok (d' := d - 1) (by omega) (by decide)) ⟨Nat.le_refl _, Nat.le_refl _⟩ d_Reader_readOr_25 rfl ?_
      refine X_aload_n d_Reader_readOr_28 rfl rfl ?_
      refine X_aload_n d_Reader_readOr_29 rfl rfl ?_
      refine X_callVv (rest := []) (hS.1 _ nn (iAdv I) (by omega) (pOK_adv h)) lk_Reader_readAnd ml_Reader_80 (xm_obj (show xYf 11 = some (sReader 12 13) from rfl)) rfl rfl (Nat.le_of_ble_eq_true rfl) (xRok (d' := d - 1) (by omega) (by decide)) ⟨Nat.le_refl _, Nat.le_refl _⟩ d_Reader_readOr_30 rfl ?_
      refine X_aload_n d_Reader_readOr_33 rfl rfl ?_
      refine X_sipush (v := 20000) d_Reader_readOr_34 rfl ?_
      refine X_callVv (rest := []) (k_Text_add l G nn (by omega) t hs (sub (iAdv I)) 20000) lk_Text_add ml_Reader_87 (xm_obj hs.1) rfl rfl (Nat.le_of_ble_eq_true rfl) (xRok (d' := d - 1) (by omega) (by decide)) ⟨Nat.le_refl _, Nat.le_refl _⟩ d_Reader_readOr_37 rfl ?_
      refine X_iinc d_Reader_readOr_40 rfl (v := (nI i) + 1) rfl (by decide) [1, 2, 0] (L' := [(0, .ref (xg G 11)), (1, .ref (xg G t)), (2, .int ((nI i) + 1))]) rfl ?_
      refine X_goto (tgt := 7) d_Reader_readOr_43 (by decide) ?_
      have hlt : i < 160 := nI_more hi (by decide) c_1
      have hz : 160 - i = (160 - (i + 1)) + 1 := by omega
      have key := ih hlt _ (pOK_add (hS.2 _ (pOK_adv h)) hs 20000)
      unfold Q_Reader_readOr at key
      rw [hz, iLop, if_pos c_2, nI_1]
      exact key
theorem k_Reader_readOr (l : Launch) (G : xG) {n o t h : Nat} (hs : tSh t) (ho5 : o ≤ 5) {sub : xI → xI} (hS : cF l G h y_Reader_readAnd b_Reader_readAnd 3 n o t sub) (h3 : 3 ≤ h) : cF l G (h + 1) y_Reader_readOr b_Reader_readOr 3 n o t (iLev sub t 131 20000) := by
  refine ⟨fun d nn I hd h => ?_, fun I h => pOK_lop hs hS.2 _ _ 160 _ (hS.2 _ h)⟩
  refine XM.of (by decide) (Nat.le_of_ble_eq_true rfl) (L := [(0, .ref (xg G 11)), (1, .ref (xg G t))]) rfl ?_
  refine X_aload_n d_Reader_readOr_0 rfl rfl ?_
  refine X_aload_n d_Reader_readOr_1 rfl rfl ?_
  refine X_callVv (rest := []) (hS.1 _ nn I (by omega) h) lk_Reader_readAnd ml_Reader_80 (xm_obj (show xYf 11 = some (sReader 12 13) from rfl)) rfl rfl (Nat.le_of_ble_eq_true rfl) (xRok (d' := d - 1) (by omega) (by decide)) ⟨Nat.le_refl _, Nat.le_refl _⟩ d_Reader_readOr_2 rfl ?_
  refine X_iconst (v := 0) d_Reader_readOr_5 rfl ?_
  refine X_istore_n d_Reader_readOr_6 rfl (by decide) [1, 2, 0] (L' := [(0, .ref (xg G 11)), (1, .ref (xg G t)), (2, .int 0)]) rfl ?_
  have hx := xloop (Q := fun i => ∀ I, pOK n o I → Q_Reader_readOr l G d nn t sub i I) (T := 160) (fun i hi ih => w_Reader_readOr l G nn hs ho5 hS h3 hd i hi ih) 0 (Nat.zero_le _) _ (hS.2 _ h)
  unfold Q_Reader_readOr at hx
  exact hx
