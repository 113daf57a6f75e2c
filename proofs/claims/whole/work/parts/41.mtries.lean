def mLay (r : Nat → Int32) (i : Nat) (f : Nat → Int32) : Nat → Int32 := xup (xup (xup (xup r (6 * i) (f 2)) (6 * i + 3) (f 5)) (6 * i + 4) (f 6)) (6 * i + 5) (f 7)
theorem c_Model_lays (l : Launch) (G : xG) {d : Nat} (nn : Nat) (hd : 1 ≤ d) (I : xI) (i : Nat) (hi : i < 5) (f : Nat → Int32) (e : Int32) (h7 : f 7 = 0 ∨ f 7 = 1) : XM l G d y_Model_lays b_Model_lays 2 (none) 0 0 xK0 [.ref (xg G 59), .int (nI i)] nn (xm G xYf (xup I 59 (sc (I 59) f e))) (none) nn (xm G xYf (xup (xup I 59 (sc (I 59) f e)) 62 (mLay (I 62) i f))) := by
  refine XM.of (by decide) (Nat.le_of_ble_eq_true rfl) (L := [(0, .ref (xg G 59)), (1, .int (nI i))]) rfl ?_
  refine X_aload_n d_Model_lays_0 rfl rfl ?_
  refine X_getR (r := 62) fg_Model_16 (show xYf 59 = some sModel from rfl) rfl d_Model_lays_1 ?_
  refine X_bipush (v := 6) d_Model_lays_4 rfl ?_
  refine X_iload_n d_Model_lays_6 rfl rfl ?_
  refine X_imul d_Model_lays_7 ?_
  refine X_aload_n d_Model_lays_8 rfl rfl ?_
  refine X_getI (v := f 2) fg_Model_140 (show xYf 59 = some sModel from rfl) rfl ((congrFun (xup_s _ _ _) _).trans (sc_29 _ _ _)) d_Model_lays_9 ?_
  refine X_astI (show xYf 62 = some (sInts 30) from rfl) (ixin (ixM (show (6 : Int32) = nI 6 from rfl) (show nI i = nI i from rfl)) (show 6 * i < 30 by omega) (by decide)) d_Model_lays_12 ?_
  rw [ixcl (x := 6 * (nI i)) (ixM (show (6 : Int32) = nI 6 from rfl) (show nI i = nI i from rfl)) (show 6 * i < 2 ^ 31 by omega)]
  refine X_aload_n d_Model_lays_13 rfl rfl ?_
  refine X_getR (r := 62) fg_Model_16 (show xYf 59 = some sModel from rfl) rfl d_Model_lays_14 ?_
  refine X_bipush (v := 6) d_Model_lays_17 rfl ?_
  refine X_iload_n d_Model_lays_19 rfl rfl ?_
  refine X_imul d_Model_lays_20 ?_
  refine X_iconst (v := 3) d_Model_lays_21 rfl ?_
  refine X_iadd d_Model_lays_22 ?_
  refine X_aload_n d_Model_lays_23 rfl rfl ?_
  refine X_getI (v := f 5) fg_Model_181 (show xYf 59 = some sModel from rfl) rfl ((xw_a _ _ _ _ (by decide)).trans ((congrFun (xup_s _ _ _) _).trans (sc_30 _ _ _))) d_Model_lays_24 ?_
  refine X_astI (show xYf 62 = some (sInts 30) from rfl) (ixin (ixA (ixM (show (6 : Int32) = nI 6 from rfl) (show nI i = nI i from rfl)) (show (3 : Int32) = nI 3 from rfl)) (show 6 * i + 3 < 30 by omega) (by decide)) d_Model_lays_27 ?_
  rw [ixcl (x := (6 * (nI i)) + 3) (ixA (ixM (show (6 : Int32) = nI 6 from rfl) (show nI i = nI i from rfl)) (show (3 : Int32) = nI 3 from rfl)) (show 6 * i + 3 < 2 ^ 31 by omega)]
  refine X_aload_n d_Model_lays_28 rfl rfl ?_
  refine X_getR (r := 62) fg_Model_16 (show xYf 59 = some sModel from rfl) rfl d_Model_lays_29 ?_
  refine X_bipush (v := 6) d_Model_lays_32 rfl ?_
  refine X_iload_n d_Model_lays_34 rfl rfl ?_
  refine X_imul d_Model_lays_35 ?_
  refine X_iconst (v := 4) d_Model_lays_36 rfl ?_
  refine X_iadd d_Model_lays_37 ?_
  refine X_aload_n d_Model_lays_38 rfl rfl ?_
  refine X_getI (v := f 6) fg_Model_186 (show xYf 59 = some sModel from rfl) rfl ((xw_a _ _ _ _ (by decide)).trans ((xw_a _ _ _ _ (by decide)).trans ((congrFun (xup_s _ _ _) _).trans (sc_31 _ _ _)))) d_Model_lays_39 ?_
  refine X_astI (show xYf 62 = some (sInts 30) from rfl) (ixin (ixA (ixM (show (6 : Int32) = nI 6 from rfl) (show nI i = nI i from rfl)) (show (4 : Int32) = nI 4 from rfl)) (show 6 * i + 4 < 30 by omega) (by decide)) d_Model_lays_42 ?_
  rw [ixcl (x := (6 * (nI i)) + 4) (ixA (ixM (show (6 : Int32) = nI 6 from rfl) (show nI i = nI i from rfl)) (show (4 : Int32) = nI 4 from rfl)) (show 6 * i + 4 < 2 ^ 31 by omega)]
  refine X_aload_n d_Model_lays_43 rfl rfl ?_
  refine X_getR (r := 62) fg_Model_16 (show xYf 59 = some sModel from rfl) rfl d_Model_lays_44 ?_
  refine X_bipush (v := 6) d_Model_lays_47 rfl ?_
  refine X_iload_n d_Model_lays_49 rfl rfl ?_
  refine X_imul d_Model_lays_50 ?_
  refine X_iconst (v := 5) d_Model_lays_51 rfl ?_
  refine X_iadd d_Model_lays_52 ?_
  refine X_aload_n d_Model_lays_53 rfl rfl ?_
  refine X_getI (v := f 7) fg_Model_174 (show xYf 59 = some sModel from rfl) rfl ((xw_a _ _ _ _ (by decide)).trans ((xw_a _ _ _ _ (by decide)).trans ((xw_a _ _ _ _ (by decide)).trans ((congrFun (xup_s _ _ _) _).trans (sc_32 _ _ _))))) d_Model_lays_54 ?_
  refine X_if_eq (tgt := 64) d_Model_lays_57 (by decide) (fun c_1 => ?_) (fun c_1 => ?_)
  ·
    refine X_iconst (v := 0) d_Model_lays_64 rfl ?_
    refine X_astI (show xYf 62 = some (sInts 30) from rfl) (ixin (ixA (ixM (show (6 : Int32) = nI 6 from rfl) (show nI i = nI i from rfl)) (show (5 : Int32) = nI 5 from rfl)) (show 6 * i + 5 < 30 by omega) (by decide)) d_Model_lays_65 ?_
    rw [ixcl (x := (6 * (nI i)) + 5) (ixA (ixM (show (6 : Int32) = nI 6 from rfl) (show nI i = nI i from rfl)) (show (5 : Int32) = nI 5 from rfl)) (show 6 * i + 5 < 2 ^ 31 by omega)]
    exact X_vret rfl rfl (xle_of (congrArg (xm G xYf) (by simp only [xw_is, xup_s, xup_up, xup_n I (sc (I 59) f e) (show (62 : Nat) ≠ 59 by decide), mLay, c_1]))) d_Model_lays_66
  ·
    refine X_iconst (v := 1) d_Model_lays_60 rfl ?_
    refine X_goto (tgt := 65) d_Model_lays_61 (by decide) ?_
    refine X_astI (show xYf 62 = some (sInts 30) from rfl) (ixin (ixA (ixM (show (6 : Int32) = nI 6 from rfl) (show nI i = nI i from rfl)) (show (5 : Int32) = nI 5 from rfl)) (show 6 * i + 5 < 30 by omega) (by decide)) d_Model_lays_65 ?_
    rw [ixcl (x := (6 * (nI i)) + 5) (ixA (ixM (show (6 : Int32) = nI 6 from rfl) (show nI i = nI i from rfl)) (show (5 : Int32) = nI 5 from rfl)) (show 6 * i + 5 < 2 ^ 31 by omega)]
    exact X_vret rfl rfl (xle_of (congrArg (xm G xYf) (by simp only [xw_is, xup_s, xup_up, xup_n I (sc (I 59) f e) (show (62 : Nat) ≠ 59 by decide), mLay, (h7.resolve_left c_1)]))) d_Model_lays_66
theorem tTry_7 {S : xSay} {n sp w : Int32} {f : Nat → Int32} : tTry S n sp w f 7 = 0 := by
  have h1 : ∀ k (g : Nat → Int32), hLing S 1 k g 7 = g 7 := by
    intro k g
    induction k with
    | zero => rfl
    | succ k ih => rw [hLing, hFade_7]; exact ih
  have h2 : ∀ sd k (g : Nat → Int32), hSpinN S sp sd k g 7 = g 7 := by
    intro sd k g
    induction k with
    | zero => rfl
    | succ k ih => rw [hSpinN, hSpin1, hFade_7, xup_n _ _ (by decide)]; exact ih
  rw [tTry, h1, hSpin, h2]
  rfl
theorem mRec_try {I : xI} {i : Nat} {f : Nat → Int32} (h : mRec I i f) (S : xSay) (n sp w : Int32) : mRec I i (tTry S n sp w f) := mRec_ling (mRec_spinN (mRec_std h) _ _ _ _) _ _ _
theorem c_Model_tries (l : Launch) (G : xG) {d : Nat} (nn : Nat) (hd : 8 ≤ d) (I : xI) (i : Nat) (hi : i < 5) (f : Nat → Int32) (e : Int32) (ln : Nat) (S : xSay) (hK : mK I ln S) (n speed w pace s : Int32) (hs : ¬ speed < 0 ∧ speed ≤ 9) (hm : ¬ I 61 i < 0 ∧ I 61 i ≤ 9) (hn : ¬ xabs n < 0) (hn2 : xabs n ≤ 100) (hw : ¬ w < 0) (hw2 : w ≤ 100) (h0 : ¬ s < 0) (h1 : s ≤ 100) : XM l G d y_Model_tries b_Model_tries 7 (none) 0 0 xK0 [.ref (xg G 59), .int (nI i), .int n, .int speed, .int w, .int pace, .int s] nn (xm G xYf (xup I 59 (sc (I 59) f e))) (none) nn (xm G xYf (xup I 59 (sc (I 59) (hGo S pace 1 s.toNatClampNeg (tTry S n speed w (mRow I i))) (mEs S pace 1 (tTry S n speed w (mRow I i)) (-1) s.toNatClampNeg)))) := by
  have hr := mRec_std (mRec_row I i)
  refine XM.of (by decide) (Nat.le_of_ble_eq_true rfl) (L := [(0, .ref (xg G 59)), (1, .int (nI i)), (2, .int n), (3, .int speed), (4, .int w), (5, .int pace), (6, .int s)]) rfl ?_
  refine X_aload_n d_Model_tries_0 rfl rfl ?_
  refine X_iload_n d_Model_tries_1 rfl rfl ?_
  refine X_callVv (rest := []) (c_Model_begins l G nn (by omega) I i (by omega) f e) lk_Model_begins ml_Model_212 (xm_obj (show xYf 59 = some sModel from rfl)) rfl rfl (Nat.le_of_ble_eq_true rfl) (xRok (d' := d - 1) (by omega) (by decide)) ⟨Nat.le_refl _, Nat.le_refl _⟩ d_Model_tries_2 rfl ?_
  refine X_aload_n d_Model_tries_5 rfl rfl ?_
  refine X_iload_n d_Model_tries_6 rfl rfl ?_
  refine X_iload_n d_Model_tries_7 rfl rfl ?_
  refine X_iload_n d_Model_tries_8 rfl rfl ?_
  refine X_callVv (rest := []) (c_Model_turns l G nn (by omega) I ln i S hK hi (hStd (mRow I i)) hr (-1) n speed hs hm hn hn2) lk_Model_turns ml_Model_199 (xm_obj (show xYf 59 = some sModel from rfl)) rfl rfl (Nat.le_of_ble_eq_true rfl) (xRok (d' := d - 1) (by omega) (by decide)) ⟨Nat.le_refl _, Nat.le_refl _⟩ d_Model_tries_9 rfl ?_
  refine X_aload_n d_Model_tries_12 rfl rfl ?_
  refine X_iload_n d_Model_tries_13 rfl rfl ?_
  refine X_iload d_Model_tries_14 rfl ?_
  refine X_iconst (v := 1) d_Model_tries_16 rfl ?_
  refine X_callVv (rest := []) (c_Model_waits l G nn (by omega) I ln i S hK hi (hSpin S n speed (hStd (mRow I i))) (mRec_spinN hr _ _ _ _) (-1) w 1 hw hw2) lk_Model_waits ml_Model_206 (xm_obj (show xYf 59 = some sModel from rfl)) rfl rfl (Nat.le_of_ble_eq_true rfl) (xRok (d' := d - 1) (by omega) (by decide)) ⟨Nat.le_refl _, Nat.le_refl _⟩ d_Model_tries_17 rfl ?_
  refine X_aload_n d_Model_tries_20 rfl rfl ?_
  refine X_iload_n d_Model_tries_21 rfl rfl ?_
  refine X_iload d_Model_tries_22 rfl ?_
  refine X_iload d_Model_tries_24 rfl ?_
  refine X_iconst (v := 1) d_Model_tries_26 rfl ?_
  refine X_callVv (rest := []) (c_Model_walks l G nn (by omega) I ln i S hK hi (hLing S 1 (w).toNatClampNeg (hSpin S n speed (hStd (mRow I i)))) (mRec_ling (mRec_spinN hr _ _ _ _) _ _ _) (-1) s pace 1 h0 h1 (Or.inl tTry_7)) lk_Model_walks ml_Model_209 (xm_obj (show xYf 59 = some sModel from rfl)) rfl rfl (Nat.le_of_ble_eq_true rfl) (xRok (d' := d - 1) (by omega) (by decide)) ⟨Nat.le_refl _, Nat.le_refl _⟩ d_Model_tries_27 rfl ?_
  exact X_vret rfl rfl (xle_rf _) d_Model_tries_30
def mDrE (S : xSay) (op : Int32) : Nat → Nat → Int64 → (Nat → Int32) → Int32 → Int32
  | 0, _, _, _, e => e
  | k + 1, j, lot, f, e => mDrE S op k (j + 1) (xNext lot) (hStep S (op - op / 10 * 10) (xEyes op (xNext lot)) f) (mE f e (nI j))
def Q_Model_walkBy (l : Launch) (G : xG) (d nn : Nat) (I : xI) (i : Nat) (S : xSay) (seed op : Int32) (N : Nat) (j : Nat) (f : Nat → Int32) (e : Int32) (lot : Int64) : Prop := XW l G (xR d 0 0) y_Model_walkBy b_Model_walkBy 8 none xK0 (xZ G nn (xm G xYf (xup I 59 (sc (I 59) (sDraw S op (N - j) lot f) (mDrE S op (N - j) j lot f e)))) none 0 0) nn (xm G xYf (xup I 59 (sc (I 59) f e))) 0 0 14 [(0, .ref (xg G 59)), (1, .int seed), (2, .int (nI i)), (3, .int (nI N)), (4, .int op), (5, .long lot), (7, .int (nI j))] []
theorem w_Model_walkBy (l : Launch) (G : xG) {d : Nat} (nn : Nat) (hd : 7 ≤ d) (I : xI) (ln i : Nat) (S : xSay) (hK : mK I ln S) (hi : i < 5) (seed op : Int32) (N : Nat) (hN2 : N < 1000) (j : Nat) (hj : j ≤ N) (ih : j < N → ∀ f e lot, mRec I i f → (f 7 = 0 ∨ f 7 = 1) → Q_Model_walkBy l G d nn I i S seed op N (j + 1) f e lot) (f : Nat → Int32) (e : Int32) (lot : Int64) (hf : mRec I i f) (h7 : f 7 = 0 ∨ f 7 = 1) : Q_Model_walkBy l G d nn I i S seed op N j f e lot := by
  unfold Q_Model_walkBy
  refine X_iload d_Model_walkBy_14 rfl ?_
  refine X_iload_n d_Model_walkBy_16 rfl rfl ?_
  refine X_icmp_ge (tgt := 71) d_Model_walkBy_17 (by decide) (fun c_1 => ?_) (fun c_1 => ?_)
  ·
    have hz : N - j = 0 := by have := nI_done hj (by omega) c_1; omega
    rw [hz]
    exact X_vret rfl rfl (xle_rf _) d_Model_walkBy_71
  ·
    refine X_lload d_Model_walkBy_20 rfl ?_
    refine X_ldc2 cs_Model_243 d_Model_walkBy_22 ?_
    refine X_lmul d_Model_walkBy_25 ?_
    refine X_ldc2 cs_Model_245 d_Model_walkBy_26 ?_
    refine X_lrem d_Model_walkBy_29 (by decide) ?_
    refine X_lstore d_Model_walkBy_30 (by decide) [1, 2, 3, 4, 5, 0, 6] (L' := [(0, .ref (xg G 59)), (1, .int seed), (2, .int (nI i)), (3, .int (nI N)), (4, .int op), (5, .long ((lot * 48271) - (lot * 48271) / 2147483647 * 2147483647)), (7, .int (nI j))]) rfl ?_
    refine X_aload_n d_Model_walkBy_32 rfl rfl ?_
    refine X_iload_n d_Model_walkBy_33 rfl rfl ?_
    refine X_iload d_Model_walkBy_34 rfl ?_
    refine X_bipush (v := 10) d_Model_walkBy_36 rfl ?_
    refine X_irem d_Model_walkBy_38 (by decide) ?_
    refine X_lload d_Model_walkBy_39 rfl ?_
    refine X_ldc2 cs_Model_247 d_Model_walkBy_41 ?_
    refine X_lrem d_Model_walkBy_44 (by decide) ?_
    refine X_iload d_Model_walkBy_45 rfl ?_
    refine X_bipush (v := 10) d_Model_walkBy_47 rfl ?_
    refine X_idiv d_Model_walkBy_49 (by decide) ?_
    refine X_i2l d_Model_walkBy_50 ?_
    refine X_lcmp d_Model_walkBy_51 ?_
    refine X_if_ge (tgt := 59) d_Model_walkBy_52 (by decide) (fun c_2 => ?_) (fun c_2 => ?_)
    ·
      refine X_iconst (v := 1) d_Model_walkBy_59 rfl ?_
      refine X_iload d_Model_walkBy_60 rfl ?_
      refine X_callVv (rest := []) (c_Model_step l G nn (by omega) I ln i S hK hi f hf e (op - op / 10 * 10) 1 (nI j) h7) lk_Model_step ml_Model_189 (xm_obj (show xYf 59 = some sModel from rfl)) rfl rfl (Nat.le_of_ble_eq_true rfl) (xRok (d' := d - 1) (by omega) (by decide)) ⟨Nat.le_refl _, Nat.le_refl _⟩ d_Model_walkBy_62 rfl ?_
      refine X_iinc d_Model_walkBy_65 rfl (v := (nI j) + 1) rfl (by decide) [1, 2, 3, 4, 5, 6, 0] (L' := [(0, .ref (xg G 59)), (1, .int seed), (2, .int (nI i)), (3, .int (nI N)), (4, .int op), (5, .long ((lot * 48271) - (lot * 48271) / 2147483647 * 2147483647)), (7, .int ((nI j) + 1))]) rfl ?_
      refine X_goto (tgt := 14) d_Model_walkBy_68 (by decide) ?_
      have hlt : j < N := nI_more hj (by omega) c_1
      have hz : N - j = (N - (j + 1)) + 1 := by omega
      have hy : xEyes op (xNext lot) = 1 := if_pos c_2
      have key := ih hlt (hStep S (op - op / 10 * 10) 1 f) (mE f e (nI j)) (xNext lot) (mRec_step hf _ _ _) (hStep_7 _ _ _ _ h7)
      unfold Q_Model_walkBy at key
      rw [hz, sDraw, mDrE, hy, nI_1]
      exact key
    ·
      refine X_iconst (v := 0) d_Model_walkBy_55 rfl ?_
      refine X_goto (tgt := 60) d_Model_walkBy_56 (by decide) ?_
      refine X_iload d_Model_walkBy_60 rfl ?_
      refine X_callVv (rest := []) (c_Model_step l G nn (by omega) I ln i S hK hi f hf e (op - op / 10 * 10) 0 (nI j) h7) lk_Model_step ml_Model_189 (xm_obj (show xYf 59 = some sModel from rfl)) rfl rfl (Nat.le_of_ble_eq_true rfl) (xRok (d' := d - 1) (by omega) (by decide)) ⟨Nat.le_refl _, Nat.le_refl _⟩ d_Model_walkBy_62 rfl ?_
      refine X_iinc d_Model_walkBy_65 rfl (v := (nI j) + 1) rfl (by decide) [1, 2, 3, 4, 5, 6, 0] (L' := [(0, .ref (xg G 59)), (1, .int seed), (2, .int (nI i)), (3, .int (nI N)), (4, .int op), (5, .long ((lot * 48271) - (lot * 48271) / 2147483647 * 2147483647)), (7, .int ((nI j) + 1))]) rfl ?_
      refine X_goto (tgt := 14) d_Model_walkBy_68 (by decide) ?_
      have hlt : j < N := nI_more hj (by omega) c_1
      have hz : N - j = (N - (j + 1)) + 1 := by omega
      have hy : xEyes op (xNext lot) = 0 := if_neg c_2
      have key := ih hlt (hStep S (op - op / 10 * 10) 0 f) (mE f e (nI j)) (xNext lot) (mRec_step hf _ _ _) (hStep_7 _ _ _ _ h7)
      unfold Q_Model_walkBy at key
      rw [hz, sDraw, mDrE, hy, nI_1]
      exact key
theorem c_Model_walkBy (l : Launch) (G : xG) {d : Nat} (nn : Nat) (hd : 7 ≤ d) (I : xI) (i : Nat) (hi : i < 5) (f : Nat → Int32) (e : Int32) (ln : Nat) (S : xSay) (hK : mK I ln S) (seed s op : Int32) (h0 : ¬ s < 0) (h1 : s ≤ 100) : XM l G d y_Model_walkBy b_Model_walkBy 8 (none) 0 0 xK0 [.ref (xg G 59), .int seed, .int (nI i), .int s, .int op] nn (xm G xYf (xup I 59 (sc (I 59) f e))) (none) nn (xm G xYf (xup I 59 (sc (I 59) (sDraw S op s.toNatClampNeg (seed.toInt64 + 1) (hStd (mRow I i))) (mDrE S op s.toNatClampNeg 0 (seed.toInt64 + 1) (hStd (mRow I i)) (-1))))) := by
  obtain ⟨N, hN1, rfl⟩ := nI_of2 (n := 100) rfl h0 h1
  refine XM.of (by decide) (Nat.le_of_ble_eq_true rfl) (L := [(0, .ref (xg G 59)), (1, .int seed), (2, .int (nI i)), (3, .int (nI N)), (4, .int op)]) rfl ?_
  refine X_iload_n d_Model_walkBy_0 rfl rfl ?_
  refine X_i2l d_Model_walkBy_1 ?_
  refine X_lconst (v := 1) d_Model_walkBy_2 rfl ?_
  refine X_ladd d_Model_walkBy_3 ?_
  refine X_lstore d_Model_walkBy_4 (by decide) [1, 2, 3, 4, 5, 0] (L' := [(0, .ref (xg G 59)), (1, .int seed), (2, .int (nI i)), (3, .int (nI N)), (4, .int op), (5, .long (seed.toInt64 + 1))]) rfl ?_
  refine X_aload_n d_Model_walkBy_6 rfl rfl ?_
  refine X_iload_n d_Model_walkBy_7 rfl rfl ?_
  refine X_callVv (rest := []) (c_Model_begins l G nn (by omega) I i (by omega) f e) lk_Model_begins ml_Model_212 (xm_obj (show xYf 59 = some sModel from rfl)) rfl rfl (Nat.le_of_ble_eq_true rfl) (xRok (d' := d - 1) (by omega) (by decide)) ⟨Nat.le_refl _, Nat.le_refl _⟩ d_Model_walkBy_8 rfl ?_
  refine X_iconst (v := 0) d_Model_walkBy_11 rfl ?_
  refine X_istore d_Model_walkBy_12 (by decide) [1, 2, 3, 4, 5, 6, 0] (L' := [(0, .ref (xg G 59)), (1, .int seed), (2, .int (nI i)), (3, .int (nI N)), (4, .int op), (5, .long (seed.toInt64 + 1)), (7, .int 0)]) rfl ?_
  have hx := xloop (Q := fun j => ∀ f e lot, mRec I i f → (f 7 = 0 ∨ f 7 = 1) → Q_Model_walkBy l G d nn I i S seed op N j f e lot) (T := N) (fun j hj ih f e lot => w_Model_walkBy l G nn (by omega) I ln i S hK hi seed op N (by omega) j hj ih f e lot) 0 (Nat.zero_le _) (hStd (mRow I i)) (-1) (seed.toInt64 + 1) (mRec_std (mRec_row I i)) (Or.inl rfl)
  unfold Q_Model_walkBy at hx
  rw [nI_cl (show N < 2 ^ 31 by omega)]
  exact hx
