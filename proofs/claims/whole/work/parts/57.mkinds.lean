theorem sc_9 (r f : Nat → Int32) (e v w : Int32) : xup (sc (xup r 9 v) f e) 9 w = sc (xup r 9 w) f e := by funext k; simp only [sc, xup]; grind
theorem mRow_59 (I : xI) (r : Nat → Int32) (i : Nat) : mRow (xup I 59 r) i = mRow I i := by
  unfold mRow
  rw [xup_n _ _ (show (60 : Nat) ≠ 59 by decide), xup_n _ _ (show (61 : Nat) ≠ 59 by decide), xup_n _ _ (show (62 : Nat) ≠ 59 by decide)]
theorem c_ulLaw (l : Launch) (G : xG) {d : Nat} (nn : Nat) (hd : 9 ≤ d) (I : xI) (hc tc ln : Nat) (SS : Nat → xSay) (hK0 : mOK I hc tc ln SS) (sz : Nat → Nat) (hsz : msOK I sz) (q i k : Nat) (hq : q < 4) (hi : i < 5) (hk : k < tc) (n sp : Int32) (hn : xin n (-40) 40 = true) (hsp : xsp sp = true) (f : Nat → Int32) (e : Int32) : XM l G d y_Model_unlike b_Model_unlike 6 (some .int) 0 0 xK0 [.ref (xg G 59), .int (nI q), .int (nI i), .int n, .int sp] nn (xm G xYf (xup I 59 (sc (xup (I 59) 9 (nI k)) f e))) (some (.int (tUnl (SS k) (fun k => I 69 (40 * q + k)) (sz q) n sp (mRow I i)))) nn (xm G xYf (xup I 59 (sc (xup (I 59) 9 (nI k)) (ulF (SS k) (fun k => I 69 (40 * q + k)) (sz q) n sp (mRow I i)) (ulE (SS k) (fun k => I 69 (40 * q + k)) (sz q) n sp (mRow I i))))) := by
  obtain ⟨⟨h0, h5⟩, ⟨h8, h6⟩, ⟨h9, hl⟩, hTs, hR⟩ := id hK0
  have hJ : mK (xup I 59 (xup (I 59) 9 (nI k))) k (SS k) := ⟨mTx_kept (hTs k hk) (xup_n _ _ (by decide)) (xup_n _ _ (by decide)), by rw [xup_s, xup_s], by omega⟩
  have e69 : (xup I 59 (xup (I 59) 9 (nI k))) 69 = I 69 := xup_n _ _ (by decide)
  have q0 := c_Model_unlike l G nn hd (xup I 59 (xup (I 59) 9 (nI k))) i hi f e k q (SS k) hJ hq n sp (sz q) (hsz q hq).2 (by rw [xup_n _ _ (by decide)]; exact (hsz q hq).1) (by rw [xup_n _ _ (by decide)]; exact (hR i hi).1) (xin_abs hn) (xin_abs2 hn) (xsp_s hsp)
  simp only [xup_s, xup_up, mRow_59, e69] at q0
  exact q0
theorem lawSelf {r : Nat → Int32} {v : Int32} (h : r 9 = v) : xup r 9 v = r := by rw [← h, xup_self]
def Q_Model_laws (l : Launch) (G : xG) (d nn : Nat) (I : xI) (tc ln q i : Nat) (SS : Nat → xSay) (sz : Nat → Nat) (n sp : Int32) (k : Nat) (b v : Int32) (f : Nat → Int32) (e : Int32) : Prop := XW l G (xR d 0 0) y_Model_laws b_Model_laws 9 (some .int) xK0 (xZ G nn (xm G xYf (xup I 59 (sc (I 59) (wnF (fun t _ => ulF (SS t) (fun k => I 69 (40 * q + k)) (sz q) n sp (mRow I i)) (tc - k) k f) (wnE (fun t _ => ulE (SS t) (fun k => I 69 (40 * q + k)) (sz q) n sp (mRow I i)) (tc - k) k e)))) (some (.int (mBits (fun t => tUnl (SS t) (fun k => I 69 (40 * q + k)) (sz q) n sp (mRow I i)) (tc - k) k b))) 0 0) nn (xm G xYf (xup I 59 (sc (xup (I 59) 9 v) f e))) 0 0 31 [(0, .ref (xg G 59)), (1, .int (nI q)), (2, .int (nI i)), (3, .int n), (4, .int sp), (6, .int (nI ln)), (7, .int b), (8, .int (nI k))] []
theorem w_Model_laws (l : Launch) (G : xG) {d : Nat} (nn : Nat) (hd : 10 ≤ d) (I : xI) (hc tc ln : Nat) (SS : Nat → xSay) (hK0 : mOK I hc tc ln SS) (sz : Nat → Nat) (hsz : msOK I sz) (q i : Nat) (hq : q < 4) (hi : i < 5) (n sp : Int32) (hn : xin n (-40) 40 = true) (hsp : xsp sp = true) (k : Nat) (hk : k ≤ tc) (ih : k < tc → ∀ b v f e, Q_Model_laws l G d nn I tc ln q i SS sz n sp (k + 1) b v f e) (b v : Int32) (f : Nat → Int32) (e : Int32) : Q_Model_laws l G d nn I tc ln q i SS sz n sp k b v f e := by
  unfold Q_Model_laws
  obtain ⟨⟨h0, h5⟩, ⟨h8, h6⟩, ⟨h9, hl⟩, hTs, hR⟩ := id hK0
  refine X_iload d_Model_laws_31 rfl ?_
  refine X_aload_n d_Model_laws_33 rfl rfl ?_
  refine X_getI (v := nI tc) fg_Model_70 (show xYf 59 = some sModel from rfl) rfl ((congrFun (xup_s _ _ _) _).trans ((sc_o _ _ _ (by decide)).trans ((xup_n _ _ (by decide)).trans (h8)))) d_Model_laws_34 ?_
  refine X_icmp_ge (tgt := 78) d_Model_laws_37 (by decide) (fun c_1 => ?_) (fun c_1 => ?_)
  ·
    refine X_aload_n d_Model_laws_78 rfl rfl ?_
    refine X_iload d_Model_laws_79 rfl ?_
    refine X_putI fp_Model_73 (show xYf 59 = some sModel from rfl) rfl d_Model_laws_81 ?_
    rw [xw_rec]
    rw [sc_9]
    refine X_iload d_Model_laws_84 rfl ?_
    have hz : tc - k = 0 := by have := nI_done hk (by omega) c_1; omega
    rw [hz, lawSelf h9]
    exact X_iret rfl rfl (xle_rf _) d_Model_laws_86
  ·
    have hlt : k < tc := nI_more hk (by omega) c_1
    have hz : tc - k = (tc - (k + 1)) + 1 := by omega
    refine X_aload_n d_Model_laws_40 rfl rfl ?_
    refine X_iload d_Model_laws_41 rfl ?_
    refine X_putI fp_Model_73 (show xYf 59 = some sModel from rfl) rfl d_Model_laws_43 ?_
    rw [xw_rec]
    rw [sc_9]
    refine X_iload d_Model_laws_46 rfl ?_
    refine X_aload_n d_Model_laws_48 rfl rfl ?_
    refine X_iload_n d_Model_laws_49 rfl rfl ?_
    refine X_iload_n d_Model_laws_50 rfl rfl ?_
    refine X_iload_n d_Model_laws_51 rfl rfl ?_
    refine X_iload d_Model_laws_52 rfl ?_
    refine X_callV (v := .int (tUnl (SS k) (fun k => I 69 (40 * q + k)) (sz q) n sp (mRow I i))) (rest := [.int b]) (c_ulLaw l G nn (by omega) I hc tc ln SS hK0 sz hsz q i k hq hi hlt n sp hn hsp f e) lk_Model_unlike ml_Model_240 (xm_obj (show xYf 59 = some sModel from rfl)) rfl rfl (Nat.le_of_ble_eq_true rfl) (xRok (d' := d - 1) (by omega) (by decide)) ⟨Nat.le_refl _, Nat.le_refl _⟩ d_Model_laws_54 rfl ?_
    refine X_iconst (v := -1) d_Model_laws_57 rfl ?_
    refine X_icmp_ne (tgt := 68) d_Model_laws_58 (by decide) (fun c_2 => ?_) (fun c_2 => ?_)
    ·
      refine X_iconst (v := 0) d_Model_laws_68 rfl ?_
      refine X_ior d_Model_laws_69 ?_
      refine X_istore d_Model_laws_70 (by decide) [1, 2, 3, 4, 5, 6, 0, 7] (L' := [(0, .ref (xg G 59)), (1, .int (nI q)), (2, .int (nI i)), (3, .int n), (4, .int sp), (6, .int (nI ln)), (7, .int (b ||| 0)), (8, .int (nI k))]) rfl ?_
      refine X_iinc d_Model_laws_72 rfl (v := (nI k) + 1) rfl (by decide) [1, 2, 3, 4, 5, 6, 7, 0] (L' := [(0, .ref (xg G 59)), (1, .int (nI q)), (2, .int (nI i)), (3, .int n), (4, .int sp), (6, .int (nI ln)), (7, .int (b ||| 0)), (8, .int ((nI k) + 1))]) rfl ?_
      refine X_goto (tgt := 31) d_Model_laws_75 (by decide) ?_
      have hU : ¬ (fun t => tUnl (SS t) (fun k => I 69 (40 * q + k)) (sz q) n sp (mRow I i)) k = -1 := c_2
      rw [show b ||| 0 = b from Int32.or_zero]
      have key := ih hlt b (nI k) (ulF (SS k) (fun k => I 69 (40 * q + k)) (sz q) n sp (mRow I i)) (ulE (SS k) (fun k => I 69 (40 * q + k)) (sz q) n sp (mRow I i))
      unfold Q_Model_laws at key
      rw [hz, wnF, wnE, mBits, if_neg hU, nI_1]
      exact key
    ·
      refine X_iconst (v := 1) d_Model_laws_61 rfl ?_
      refine X_iload d_Model_laws_62 rfl ?_
      refine X_ishl d_Model_laws_64 ?_
      refine X_goto (tgt := 69) d_Model_laws_65 (by decide) ?_
      refine X_ior d_Model_laws_69 ?_
      refine X_istore d_Model_laws_70 (by decide) [1, 2, 3, 4, 5, 6, 0, 7] (L' := [(0, .ref (xg G 59)), (1, .int (nI q)), (2, .int (nI i)), (3, .int n), (4, .int sp), (6, .int (nI ln)), (7, .int (b ||| (1 <<< ((nI k) &&& 31)))), (8, .int (nI k))]) rfl ?_
      refine X_iinc d_Model_laws_72 rfl (v := (nI k) + 1) rfl (by decide) [1, 2, 3, 4, 5, 6, 7, 0] (L' := [(0, .ref (xg G 59)), (1, .int (nI q)), (2, .int (nI i)), (3, .int n), (4, .int sp), (6, .int (nI ln)), (7, .int (b ||| (1 <<< ((nI k) &&& 31)))), (8, .int ((nI k) + 1))]) rfl ?_
      refine X_goto (tgt := 31) d_Model_laws_75 (by decide) ?_
      have hU : (fun t => tUnl (SS t) (fun k => I 69 (40 * q + k)) (sz q) n sp (mRow I i)) k = -1 := c_2
      have key := ih hlt (b ||| (1 <<< ((nI k) &&& 31))) (nI k) (ulF (SS k) (fun k => I 69 (40 * q + k)) (sz q) n sp (mRow I i)) (ulE (SS k) (fun k => I 69 (40 * q + k)) (sz q) n sp (mRow I i))
      unfold Q_Model_laws at key
      rw [hz, wnF, wnE, mBits, if_pos hU, nI_1]
      exact key
def aLawsM (hc tc : Nat) (SS : Nat → xSay) (R : Nat → Nat → Int32) (srt : Nat → Int32) (sz : Nat → Nat) (cl : Nat → Nat → Int32) (s h n sp : Int32) : Int32 := if mTold hc srt s h n sp = 0 then mBits (fun t => tUnl (SS t) (cl s.toNatClampNeg) (sz s.toNatClampNeg) n sp (R h.toNatClampNeg)) tc 0 0 else mTold hc srt s h n sp
theorem c_Model_laws (l : Launch) (G : xG) {d : Nat} (nn : Nat) (hd : 10 ≤ d) (I : xI) (hc tc ln : Nat) (SS : Nat → xSay) (hK0 : mOK I hc tc ln SS) (sz : Nat → Nat) (hsz : msOK I sz) (s h n sp : Int32) : XM l G d y_Model_laws b_Model_laws 9 (some .int) 0 0 xK0 [.ref (xg G 59), .int s, .int h, .int n, .int sp] nn (xm G xYf I) (some (.int (aLawsM hc tc SS (mRow I) (I 67) sz (fun q k => I 69 (40 * q + k)) s h n sp))) nn (xm G xYf (if mTold hc (I 67) s h n sp = 0 then xup I 59 (sc (I 59) (wnF (fun t _ => ulF (SS t) (fun k => I 69 (40 * s.toNatClampNeg + k)) (sz s.toNatClampNeg) n sp (mRow I h.toNatClampNeg)) tc 0 (mCur I)) (wnE (fun t _ => ulE (SS t) (fun k => I 69 (40 * s.toNatClampNeg + k)) (sz s.toNatClampNeg) n sp (mRow I h.toNatClampNeg)) tc 0 (I 59 33))) else I)) := by
  obtain ⟨⟨h0, h5⟩, ⟨h8, h6⟩, ⟨h9, hl⟩, hTs, hR⟩ := id hK0
  have hK : mK I ln (SS ln) := ⟨hTs ln hl, h9, by omega⟩
  generalize hSS : SS ln = S at hK ⊢
  refine XM.of (by decide) (Nat.le_of_ble_eq_true rfl) (L := [(0, .ref (xg G 59)), (1, .int s), (2, .int h), (3, .int n), (4, .int sp)]) rfl ?_
  refine X_aload_n d_Model_laws_0 rfl rfl ?_
  refine X_iload_n d_Model_laws_1 rfl rfl ?_
  refine X_iload_n d_Model_laws_2 rfl rfl ?_
  refine X_iload_n d_Model_laws_3 rfl rfl ?_
  refine X_iload d_Model_laws_4 rfl ?_
  refine X_callV (v := .int (mTold hc (I 67) s h n sp)) (rest := []) (c_Model_toldWrong l G nn (by omega) I hc tc ln SS hK0 s h n sp) lk_Model_toldWrong ml_Model_237 (xm_obj (show xYf 59 = some sModel from rfl)) rfl rfl (Nat.le_of_ble_eq_true rfl) (xRok (d' := d - 1) (by omega) (by decide)) ⟨Nat.le_refl _, Nat.le_refl _⟩ d_Model_laws_6 rfl ?_
  refine X_istore d_Model_laws_9 (by decide) [1, 2, 3, 4, 5, 0] (L' := [(0, .ref (xg G 59)), (1, .int s), (2, .int h), (3, .int n), (4, .int sp), (5, .int (mTold hc (I 67) s h n sp))]) rfl ?_
  refine X_iload d_Model_laws_11 rfl ?_
  refine X_if_eq (tgt := 19) d_Model_laws_13 (by decide) (fun c_1 => ?_) (fun c_1 => ?_)
  ·
    obtain ⟨q, i, hq, hi, rfl, rfl, ht, hn, hsp⟩ := mTold_ok h5 c_1
    refine X_aload_n d_Model_laws_19 rfl rfl ?_
    refine X_getI (v := nI ln) fg_Model_73 (show xYf 59 = some sModel from rfl) rfl (h9) d_Model_laws_20 ?_
    refine X_istore d_Model_laws_23 (by decide) [1, 2, 3, 4, 5, 6, 0] (L' := [(0, .ref (xg G 59)), (1, .int (nI q)), (2, .int (nI i)), (3, .int n), (4, .int sp), (5, .int (mTold hc (I 67) (nI q) (nI i) n sp)), (6, .int (nI ln))]) rfl ?_
    refine X_iconst (v := 0) d_Model_laws_25 rfl ?_
    refine X_istore d_Model_laws_26 (by decide) [1, 2, 3, 4, 5, 6, 7, 0] (L' := [(0, .ref (xg G 59)), (1, .int (nI q)), (2, .int (nI i)), (3, .int n), (4, .int sp), (5, .int (mTold hc (I 67) (nI q) (nI i) n sp)), (6, .int (nI ln)), (7, .int 0)]) rfl ?_
    refine X_iconst (v := 0) d_Model_laws_28 rfl ?_
    refine X_istore d_Model_laws_29 (by decide) [1, 2, 3, 4, 5, 6, 7, 8, 0] (L' := [(0, .ref (xg G 59)), (1, .int (nI q)), (2, .int (nI i)), (3, .int n), (4, .int sp), (5, .int (mTold hc (I 67) (nI q) (nI i) n sp)), (6, .int (nI ln)), (7, .int 0), (8, .int 0)]) rfl ?_
    have hx := xloop (Q := fun k => ∀ b v f e, Q_Model_laws l G d nn I tc ln q i SS sz n sp k b v f e) (T := tc) (fun k hk ih b v f e => w_Model_laws l G nn hd I hc tc ln SS hK0 sz hsz q i hq (by omega) n sp hn hsp k hk ih b v f e) 0 (Nat.zero_le _) 0 (nI ln) (mCur I) (I 59 33)
    unfold Q_Model_laws at hx
    rw [lawSelf h9, sc_self, Nat.sub_zero] at hx
    rw [aLawsM, if_pos c_1, if_pos c_1, nI_cl (show i < 2 ^ 31 by omega), nI_cl (show q < 2 ^ 31 by omega)]
    refine X_sub [0, 1, 2, 3, 4, 6, 7, 8] (L' := [(0, .ref (xg G 59)), (1, .int (nI q)), (2, .int (nI i)), (3, .int n), (4, .int sp), (6, .int (nI ln)), (7, .int 0), (8, .int 0)]) rfl ?_
    exact hx
  ·
    refine X_iload d_Model_laws_16 rfl ?_
    exact X_iret rfl (congrArg (fun q => some (Value.int q)) (by subst hSS; first | (simp [aLawsM, c_1, xl_1_0, xl_1_1, xl_2_0, xl_2_1, xl_2_2, xl_3_0, xl_3_1, xl_3_2, xl_3_3]; done) | (exfalso; simp_all; done) | (clear hTs hR hK0 hK; simp_all [aLawsM]; done))) (xle_of (congrArg (xm G xYf) (by first | (subst hSS; simp [c_1, xl_3_0, xl_3_1, xl_3_2, xl_3_3, xl_2_0, xl_2_1, xl_2_2, xl_1_0, xl_1_1]; done) | (exfalso; simp_all; done)))) d_Model_laws_18
theorem xite_ap {α β : Type} {p : Prop} [Decidable p] (f g : α → β) (a : α) : (if p then f else g) a = if p then f a else g a := by split <;> rfl
theorem xup_ap {α : Type} (f : Nat → α) (k : Nat) (v : α) (j : Nat) : xup f k v j = if j = k then v else f j := rfl
def mKV (I : xI) (i : Nat) (a b c : Int32) : xI := xw (xw (xw I 60 i a) 61 i b) 62 (6 * i + 1) c
theorem mKV_up (I : xI) (i : Nat) (a b c a' b' c' : Int32) (r : Nat → Int32) : xw (xw (xw (xup (mKV I i a b c) 59 r) 60 i a') 61 i b') 62 (6 * i + 1) c' = xup (mKV I i a' b' c') 59 r := by
  funext x y
  simp only [mKV, xw_is, xup_ap, xite_ap]
  grind
theorem mKV_self (I : xI) (i : Nat) : mKV I i (I 60 i) (I 61 i) (I 62 (6 * i + 1)) = I := by
  funext x y
  simp only [mKV, xw_is, xup_ap, xite_ap]
  grind
theorem mKV_o (I : xI) (i : Nat) (a b c : Int32) {x : Nat} (h : x ≠ 60) (h1 : x ≠ 61) (h2 : x ≠ 62) : mKV I i a b c x = I x := by
  funext y
  simp only [mKV, xw_is, xup_ap, xite_ap]
  grind
def kv3 (a b c : Int32) (f : Nat → Int32) : Nat → Int32 := xup (xup (xup f 0 a) 1 b) 3 c
theorem mKV_row (I : xI) (i : Nat) (a b c : Int32) : mRow (mKV I i a b c) i = kv3 a b c (mRow I i) := by
  funext y
  simp only [kv3, mRow, mKV, xw_is, xup_ap, xite_ap]
  grind
theorem mKV_61 (I : xI) (i : Nat) (a b c : Int32) : mKV I i a b c 61 i = b := by
  simp only [mKV, xw_is, xup_ap, xite_ap]
  grind
theorem kv3_0 (I : xI) (i : Nat) (v : Int32) : kv3 v (I 61 i) (I 62 (6 * i + 1)) (mRow I i) = kVar 0 v (mRow I i) := by
  funext y
  simp only [kv3, kVar, mRow, xup_ap, xite_ap]
  grind
theorem kv3_1 (I : xI) (i : Nat) (v : Int32) : kv3 (I 60 i) v (I 62 (6 * i + 1)) (mRow I i) = kVar 1 v (mRow I i) := by
  funext y
  simp only [kv3, kVar, mRow, xup_ap, xite_ap]
  grind
theorem kv3_2 (I : xI) (i : Nat) (v : Int32) : kv3 (I 60 i) (I 61 i) v (mRow I i) = kVar 2 v (mRow I i) := by
  funext y
  simp only [kv3, kVar, mRow, xup_ap, xite_ap]
  grind
theorem c_ulKind (l : Launch) (G : xG) {d : Nat} (nn : Nat) (hd : 9 ≤ d) (I : xI) (ln : Nat) (S : xSay) (hK : mK I ln S) (sz : Nat → Nat) (hsz : msOK I sz) (q i : Nat) (hq : q < 4) (hi : i < 5) (n sp : Int32) (hn : xin n (-40) 40 = true) (hsp : xsp sp = true) (a b c : Int32) (hb : ¬ b < 0 ∧ b ≤ 9) (f : Nat → Int32) (e : Int32) : XM l G d y_Model_unlike b_Model_unlike 6 (some .int) 0 0 xK0 [.ref (xg G 59), .int (nI q), .int (nI i), .int n, .int sp] nn (xm G xYf (xup (mKV I i a b c) 59 (sc (I 59) f e))) (some (.int (tUnl S (fun k => I 69 (40 * q + k)) (sz q) n sp (kv3 a b c (mRow I i))))) nn (xm G xYf (xup (mKV I i a b c) 59 (sc (I 59) (ulF S (fun k => I 69 (40 * q + k)) (sz q) n sp (kv3 a b c (mRow I i))) (ulE S (fun k => I 69 (40 * q + k)) (sz q) n sp (kv3 a b c (mRow I i)))))) := by
  have e59 := mKV_o I i a b c (x := 59) (by decide) (by decide) (by decide)
  have e69 := mKV_o I i a b c (x := 69) (by decide) (by decide) (by decide)
  have hJ : mK (mKV I i a b c) ln S := ⟨mTx_kept hK.1 (mKV_o I i a b c (by decide) (by decide) (by decide)) (mKV_o I i a b c (by decide) (by decide) (by decide)), by rw [e59]; exact hK.2.1, hK.2.2⟩
  have q0 := c_Model_unlike l G nn hd (mKV I i a b c) i hi f e ln q S hJ hq n sp (sz q) (hsz q hq).2 (by rw [mKV_o I i a b c (by decide) (by decide) (by decide)]; exact (hsz q hq).1) (by rw [mKV_61]; exact hb) (xin_abs hn) (xin_abs2 hn) (xsp_s hsp)
  rw [e59, e69, mKV_row] at q0
  exact q0
def Q_Model_kinds_0 (l : Launch) (G : xG) (d nn : Nat) (I : xI) (q i : Nat) (S : xSay) (sz : Nat → Nat) (n sp : Int32) (k : Nat) (b x y z : Int32) (f : Nat → Int32) (e : Int32) : Prop := XW l G (xR d 0 0) y_Model_kinds b_Model_kinds 12 (some .int) xK0 (xZ G nn (xm G xYf (xup I 59 (sc (I 59) (wnF (fun v _ => ulF S (fun k => I 69 (40 * q + k)) (sz q) n sp (kVar 0 (nI v) (mRow I i))) (6 - k) k f) (wnE (fun v _ => ulE S (fun k => I 69 (40 * q + k)) (sz q) n sp (kVar 0 (nI v) (mRow I i))) (6 - k) k e)))) (some (.int (mBits (fun v => tUnl S (fun k => I 69 (40 * q + k)) (sz q) n sp (kVar 0 (nI v) (mRow I i))) (6 - k) k b))) 0 0) nn (xm G xYf (xup (mKV I i x y z) 59 (sc (I 59) f e))) 0 0 67 [(0, .ref (xg G 59)), (1, .int (nI q)), (2, .int (nI i)), (3, .int n), (4, .int sp), (5, .int 0), (7, .int (I 60 i)), (8, .int (I 61 i)), (9, .int (I 62 (6 * i + 1))), (10, .int b), (11, .int (nI k))] []
theorem w_Model_kinds_0 (l : Launch) (G : xG) {d : Nat} (nn : Nat) (hd : 10 ≤ d) (I : xI) (ln : Nat) (S : xSay) (hK : mK I ln S) (sz : Nat → Nat) (hsz : msOK I sz) (q i : Nat) (hq : q < 4) (hi : i < 5) (n sp : Int32) (hn : xin n (-40) 40 = true) (hsp : xsp sp = true) (hm : ¬ I 61 i < 0 ∧ I 61 i ≤ 9) (k : Nat) (hk : k ≤ 6) (ih : k < 6 → ∀ b x y z f e, Q_Model_kinds_0 l G d nn I q i S sz n sp (k + 1) b x y z f e) (b x y z : Int32) (f : Nat → Int32) (e : Int32) : Q_Model_kinds_0 l G d nn I q i S sz n sp k b x y z f e := by
  unfold Q_Model_kinds_0
  refine X_iload d_Model_kinds_67 rfl ?_
  refine X_iload d_Model_kinds_69 rfl ?_
  refine X_if_ne (tgt := 79) d_Model_kinds_71 (by decide) (fun c_1 => absurd c_1 (by decide)) (fun _ => ?_)
  refine X_bipush (v := 6) d_Model_kinds_74 rfl ?_
  refine X_goto (tgt := 81) d_Model_kinds_76 (by decide) ?_
  refine X_icmp_ge (tgt := 177) d_Model_kinds_81 (by decide) (fun c_2 => ?_) (fun c_2 => ?_)
  ·
    refine X_aload_n d_Model_kinds_177 rfl rfl ?_
    refine X_getR (r := 60) fg_Model_7 (show xYf 59 = some sModel from rfl) rfl d_Model_kinds_178 ?_
    refine X_iload_n d_Model_kinds_181 rfl rfl ?_
    refine X_iload d_Model_kinds_182 rfl ?_
    refine X_astI (show xYf 60 = some (sInts 5) from rfl) (ixin (show nI i = nI i from rfl) (show i < 5 by omega) (by decide)) d_Model_kinds_184 ?_
    rw [ixcl (x := nI i) (show nI i = nI i from rfl) (show i < 2 ^ 31 by omega)]
    refine X_aload_n d_Model_kinds_185 rfl rfl ?_
    refine X_getR (r := 61) fg_Model_13 (show xYf 59 = some sModel from rfl) rfl d_Model_kinds_186 ?_
    refine X_iload_n d_Model_kinds_189 rfl rfl ?_
    refine X_iload d_Model_kinds_190 rfl ?_
    refine X_astI (show xYf 61 = some (sInts 5) from rfl) (ixin (show nI i = nI i from rfl) (show i < 5 by omega) (by decide)) d_Model_kinds_192 ?_
    rw [ixcl (x := nI i) (show nI i = nI i from rfl) (show i < 2 ^ 31 by omega)]
    refine X_aload_n d_Model_kinds_193 rfl rfl ?_
    refine X_getR (r := 62) fg_Model_16 (show xYf 59 = some sModel from rfl) rfl d_Model_kinds_194 ?_
    refine X_bipush (v := 6) d_Model_kinds_197 rfl ?_
    refine X_iload_n d_Model_kinds_199 rfl rfl ?_
    refine X_imul d_Model_kinds_200 ?_
    refine X_iconst (v := 1) d_Model_kinds_201 rfl ?_
    refine X_iadd d_Model_kinds_202 ?_
    refine X_iload d_Model_kinds_203 rfl ?_
    refine X_astI (show xYf 62 = some (sInts 30) from rfl) (ixin (ixA (ixM (show (6 : Int32) = nI 6 from rfl) (show nI i = nI i from rfl)) (show (1 : Int32) = nI 1 from rfl)) (show 6 * i + 1 < 30 by omega) (by decide)) d_Model_kinds_205 ?_
    rw [ixcl (x := (6 * (nI i)) + 1) (ixA (ixM (show (6 : Int32) = nI 6 from rfl) (show nI i = nI i from rfl)) (show (1 : Int32) = nI 1 from rfl)) (show 6 * i + 1 < 2 ^ 31 by omega)]
    rw [mKV_up, mKV_self]
    refine X_iload d_Model_kinds_206 rfl ?_
    have hz : 6 - k = 0 := by have := nI_done hk (by decide) c_2; omega
    rw [hz]
    exact X_iret rfl rfl (xle_rf _) d_Model_kinds_208
  ·
    have hlt : k < 6 := nI_more hk (by omega) c_2
    have hz : 6 - k = (6 - (k + 1)) + 1 := by omega
    refine X_aload_n d_Model_kinds_84 rfl rfl ?_
    refine X_getR (r := 60) fg_Model_7 (show xYf 59 = some sModel from rfl) rfl d_Model_kinds_85 ?_
    refine X_iload_n d_Model_kinds_88 rfl rfl ?_
    refine X_iload d_Model_kinds_89 rfl ?_
    refine X_if_ne (tgt := 99) d_Model_kinds_91 (by decide) (fun c_3 => absurd c_3 (by decide)) (fun _ => ?_)
    refine X_iload d_Model_kinds_94 rfl ?_
    refine X_goto (tgt := 101) d_Model_kinds_96 (by decide) ?_
    refine X_astI (show xYf 60 = some (sInts 5) from rfl) (ixin (show nI i = nI i from rfl) (show i < 5 by omega) (by decide)) d_Model_kinds_101 ?_
    rw [ixcl (x := nI i) (show nI i = nI i from rfl) (show i < 2 ^ 31 by omega)]
    refine X_aload_n d_Model_kinds_102 rfl rfl ?_
    refine X_getR (r := 61) fg_Model_13 (show xYf 59 = some sModel from rfl) rfl d_Model_kinds_103 ?_
    refine X_iload_n d_Model_kinds_106 rfl rfl ?_
    refine X_iload d_Model_kinds_107 rfl ?_
    refine X_iconst (v := 1) d_Model_kinds_109 rfl ?_
    refine X_icmp_ne (tgt := 118) d_Model_kinds_110 (by decide) (fun _ => ?_) (fun c_4 => absurd c_4 (by decide))
    refine X_iload d_Model_kinds_118 rfl ?_
    refine X_astI (show xYf 61 = some (sInts 5) from rfl) (ixin (show nI i = nI i from rfl) (show i < 5 by omega) (by decide)) d_Model_kinds_120 ?_
    rw [ixcl (x := nI i) (show nI i = nI i from rfl) (show i < 2 ^ 31 by omega)]
    refine X_aload_n d_Model_kinds_121 rfl rfl ?_
    refine X_getR (r := 62) fg_Model_16 (show xYf 59 = some sModel from rfl) rfl d_Model_kinds_122 ?_
    refine X_bipush (v := 6) d_Model_kinds_125 rfl ?_
    refine X_iload_n d_Model_kinds_127 rfl rfl ?_
    refine X_imul d_Model_kinds_128 ?_
    refine X_iconst (v := 1) d_Model_kinds_129 rfl ?_
    refine X_iadd d_Model_kinds_130 ?_
    refine X_iload d_Model_kinds_131 rfl ?_
    refine X_iconst (v := 2) d_Model_kinds_133 rfl ?_
    refine X_icmp_ne (tgt := 142) d_Model_kinds_134 (by decide) (fun _ => ?_) (fun c_5 => absurd c_5 (by decide))
    refine X_iload d_Model_kinds_142 rfl ?_
    refine X_astI (show xYf 62 = some (sInts 30) from rfl) (ixin (ixA (ixM (show (6 : Int32) = nI 6 from rfl) (show nI i = nI i from rfl)) (show (1 : Int32) = nI 1 from rfl)) (show 6 * i + 1 < 30 by omega) (by decide)) d_Model_kinds_144 ?_
    rw [ixcl (x := (6 * (nI i)) + 1) (ixA (ixM (show (6 : Int32) = nI 6 from rfl) (show nI i = nI i from rfl)) (show (1 : Int32) = nI 1 from rfl)) (show 6 * i + 1 < 2 ^ 31 by omega)]
    rw [mKV_up]
    refine X_iload d_Model_kinds_145 rfl ?_
    refine X_aload_n d_Model_kinds_147 rfl rfl ?_
    refine X_iload_n d_Model_kinds_148 rfl rfl ?_
    refine X_iload_n d_Model_kinds_149 rfl rfl ?_
    refine X_iload_n d_Model_kinds_150 rfl rfl ?_
    refine X_iload d_Model_kinds_151 rfl ?_
    refine X_callV (v := .int (tUnl S (fun k => I 69 (40 * q + k)) (sz q) n sp (kVar 0 (nI k) (mRow I i)))) (rest := [.int b]) (by have q0 := c_ulKind l G nn (d := d - 1) (by omega) I ln S hK sz hsz q i hq hi n sp hn hsp (nI k) (I 61 i) (I 62 (6 * i + 1)) hm f e; rw [kv3_0] at q0; exact q0) lk_Model_unlike ml_Model_240 (xm_obj (show xYf 59 = some sModel from rfl)) rfl rfl (Nat.le_of_ble_eq_true rfl) (xRok (d' := d - 1) (by omega) (by decide)) ⟨Nat.le_refl _, Nat.le_refl _⟩ d_Model_kinds_153 rfl ?_
    refine X_iconst (v := -1) d_Model_kinds_156 rfl ?_
    refine X_icmp_ne (tgt := 167) d_Model_kinds_157 (by decide) (fun c_6 => ?_) (fun c_6 => ?_)
    ·
      refine X_iconst (v := 0) d_Model_kinds_167 rfl ?_
      refine X_ior d_Model_kinds_168 ?_
      refine X_istore d_Model_kinds_169 (by decide) [1, 2, 3, 4, 5, 6, 7, 8, 9, 0, 10] (L' := [(0, .ref (xg G 59)), (1, .int (nI q)), (2, .int (nI i)), (3, .int n), (4, .int sp), (5, .int 0), (7, .int (I 60 i)), (8, .int (I 61 i)), (9, .int (I 62 (6 * i + 1))), (10, .int (b ||| 0)), (11, .int (nI k))]) rfl ?_
      refine X_iinc d_Model_kinds_171 rfl (v := (nI k) + 1) rfl (by decide) [1, 2, 3, 4, 5, 6, 7, 8, 9, 10, 0] (L' := [(0, .ref (xg G 59)), (1, .int (nI q)), (2, .int (nI i)), (3, .int n), (4, .int sp), (5, .int 0), (7, .int (I 60 i)), (8, .int (I 61 i)), (9, .int (I 62 (6 * i + 1))), (10, .int (b ||| 0)), (11, .int ((nI k) + 1))]) rfl ?_
      refine X_goto (tgt := 67) d_Model_kinds_174 (by decide) ?_
      have hU : ¬ (fun v => tUnl S (fun k => I 69 (40 * q + k)) (sz q) n sp (kVar 0 (nI v) (mRow I i))) k = -1 := c_6
      rw [show b ||| 0 = b from Int32.or_zero]
      have key := ih hlt b (nI k) (I 61 i) (I 62 (6 * i + 1)) (ulF S (fun k => I 69 (40 * q + k)) (sz q) n sp (kVar 0 (nI k) (mRow I i))) (ulE S (fun k => I 69 (40 * q + k)) (sz q) n sp (kVar 0 (nI k) (mRow I i)))
      unfold Q_Model_kinds_0 at key
      rw [hz, wnF, wnE, mBits, if_neg hU, nI_1]
      exact key
    ·
      refine X_iconst (v := 1) d_Model_kinds_160 rfl ?_
      refine X_iload d_Model_kinds_161 rfl ?_
      refine X_ishl d_Model_kinds_163 ?_
      refine X_goto (tgt := 168) d_Model_kinds_164 (by decide) ?_
      refine X_ior d_Model_kinds_168 ?_
      refine X_istore d_Model_kinds_169 (by decide) [1, 2, 3, 4, 5, 6, 7, 8, 9, 0, 10] (L' := [(0, .ref (xg G 59)), (1, .int (nI q)), (2, .int (nI i)), (3, .int n), (4, .int sp), (5, .int 0), (7, .int (I 60 i)), (8, .int (I 61 i)), (9, .int (I 62 (6 * i + 1))), (10, .int (b ||| (1 <<< ((nI k) &&& 31)))), (11, .int (nI k))]) rfl ?_
      refine X_iinc d_Model_kinds_171 rfl (v := (nI k) + 1) rfl (by decide) [1, 2, 3, 4, 5, 6, 7, 8, 9, 10, 0] (L' := [(0, .ref (xg G 59)), (1, .int (nI q)), (2, .int (nI i)), (3, .int n), (4, .int sp), (5, .int 0), (7, .int (I 60 i)), (8, .int (I 61 i)), (9, .int (I 62 (6 * i + 1))), (10, .int (b ||| (1 <<< ((nI k) &&& 31)))), (11, .int ((nI k) + 1))]) rfl ?_
      refine X_goto (tgt := 67) d_Model_kinds_174 (by decide) ?_
      have hU : (fun v => tUnl S (fun k => I 69 (40 * q + k)) (sz q) n sp (kVar 0 (nI v) (mRow I i))) k = -1 := c_6
      have key := ih hlt (b ||| (1 <<< ((nI k) &&& 31))) (nI k) (I 61 i) (I 62 (6 * i + 1)) (ulF S (fun k => I 69 (40 * q + k)) (sz q) n sp (kVar 0 (nI k) (mRow I i))) (ulE S (fun k => I 69 (40 * q + k)) (sz q) n sp (kVar 0 (nI k) (mRow I i)))
      unfold Q_Model_kinds_0 at key
      rw [hz, wnF, wnE, mBits, if_pos hU, nI_1]
      exact key
def Q_Model_kinds_1 (l : Launch) (G : xG) (d nn : Nat) (I : xI) (q i : Nat) (S : xSay) (sz : Nat → Nat) (n sp : Int32) (k : Nat) (b x y z : Int32) (f : Nat → Int32) (e : Int32) : Prop := XW l G (xR d 0 0) y_Model_kinds b_Model_kinds 12 (some .int) xK0 (xZ G nn (xm G xYf (xup I 59 (sc (I 59) (wnF (fun v _ => ulF S (fun k => I 69 (40 * q + k)) (sz q) n sp (kVar 1 (nI v) (mRow I i))) (10 - k) k f) (wnE (fun v _ => ulE S (fun k => I 69 (40 * q + k)) (sz q) n sp (kVar 1 (nI v) (mRow I i))) (10 - k) k e)))) (some (.int (mBits (fun v => tUnl S (fun k => I 69 (40 * q + k)) (sz q) n sp (kVar 1 (nI v) (mRow I i))) (10 - k) k b))) 0 0) nn (xm G xYf (xup (mKV I i x y z) 59 (sc (I 59) f e))) 0 0 67 [(0, .ref (xg G 59)), (1, .int (nI q)), (2, .int (nI i)), (3, .int n), (4, .int sp), (5, .int 1), (7, .int (I 60 i)), (8, .int (I 61 i)), (9, .int (I 62 (6 * i + 1))), (10, .int b), (11, .int (nI k))] []
theorem w_Model_kinds_1 (l : Launch) (G : xG) {d : Nat} (nn : Nat) (hd : 10 ≤ d) (I : xI) (ln : Nat) (S : xSay) (hK : mK I ln S) (sz : Nat → Nat) (hsz : msOK I sz) (q i : Nat) (hq : q < 4) (hi : i < 5) (n sp : Int32) (hn : xin n (-40) 40 = true) (hsp : xsp sp = true) (hm : ¬ I 61 i < 0 ∧ I 61 i ≤ 9) (k : Nat) (hk : k ≤ 10) (ih : k < 10 → ∀ b x y z f e, Q_Model_kinds_1 l G d nn I q i S sz n sp (k + 1) b x y z f e) (b x y z : Int32) (f : Nat → Int32) (e : Int32) : Q_Model_kinds_1 l G d nn I q i S sz n sp k b x y z f e := by
  unfold Q_Model_kinds_1
  refine X_iload d_Model_kinds_67 rfl ?_
  refine X_iload d_Model_kinds_69 rfl ?_
  refine X_if_ne (tgt := 79) d_Model_kinds_71 (by decide) (fun _ => ?_) (fun c_1 => absurd c_1 (by decide))
  refine X_bipush (v := 10) d_Model_kinds_79 rfl ?_
  refine X_icmp_ge (tgt := 177) d_Model_kinds_81 (by decide) (fun c_2 => ?_) (fun c_2 => ?_)
  ·
    refine X_aload_n d_Model_kinds_177 rfl rfl ?_
    refine X_getR (r := 60) fg_Model_7 (show xYf 59 = some sModel from rfl) rfl d_Model_kinds_178 ?_
    refine X_iload_n d_Model_kinds_181 rfl rfl ?_
    refine X_iload d_Model_kinds_182 rfl ?_
    refine X_astI (show xYf 60 = some (sInts 5) from rfl) (ixin (show nI i = nI i from rfl) (show i < 5 by omega) (by decide)) d_Model_kinds_184 ?_
    rw [ixcl (x := nI i) (show nI i = nI i from rfl) (show i < 2 ^ 31 by omega)]
    refine X_aload_n d_Model_kinds_185 rfl rfl ?_
    refine X_getR (r := 61) fg_Model_13 (show xYf 59 = some sModel from rfl) rfl d_Model_kinds_186 ?_
    refine X_iload_n d_Model_kinds_189 rfl rfl ?_
    refine X_iload d_Model_kinds_190 rfl ?_
    refine X_astI (show xYf 61 = some (sInts 5) from rfl) (ixin (show nI i = nI i from rfl) (show i < 5 by omega) (by decide)) d_Model_kinds_192 ?_
    rw [ixcl (x := nI i) (show nI i = nI i from rfl) (show i < 2 ^ 31 by omega)]
    refine X_aload_n d_Model_kinds_193 rfl rfl ?_
    refine X_getR (r := 62) fg_Model_16 (show xYf 59 = some sModel from rfl) rfl d_Model_kinds_194 ?_
    refine X_bipush (v := 6) d_Model_kinds_197 rfl ?_
    refine X_iload_n d_Model_kinds_199 rfl rfl ?_
    refine X_imul d_Model_kinds_200 ?_
    refine X_iconst (v := 1) d_Model_kinds_201 rfl ?_
    refine X_iadd d_Model_kinds_202 ?_
    refine X_iload d_Model_kinds_203 rfl ?_
    refine X_astI (show xYf 62 = some (sInts 30) from rfl) (ixin (ixA (ixM (show (6 : Int32) = nI 6 from rfl) (show nI i = nI i from rfl)) (show (1 : Int32) = nI 1 from rfl)) (show 6 * i + 1 < 30 by omega) (by decide)) d_Model_kinds_205 ?_
    rw [ixcl (x := (6 * (nI i)) + 1) (ixA (ixM (show (6 : Int32) = nI 6 from rfl) (show nI i = nI i from rfl)) (show (1 : Int32) = nI 1 from rfl)) (show 6 * i + 1 < 2 ^ 31 by omega)]
    rw [mKV_up, mKV_self]
    refine X_iload d_Model_kinds_206 rfl ?_
    have hz : 10 - k = 0 := by have := nI_done hk (by decide) c_2; omega
    rw [hz]
    exact X_iret rfl rfl (xle_rf _) d_Model_kinds_208
  ·
    have hlt : k < 10 := nI_more hk (by omega) c_2
    have hz : 10 - k = (10 - (k + 1)) + 1 := by omega
    refine X_aload_n d_Model_kinds_84 rfl rfl ?_
    refine X_getR (r := 60) fg_Model_7 (show xYf 59 = some sModel from rfl) rfl d_Model_kinds_85 ?_
    refine X_iload_n d_Model_kinds_88 rfl rfl ?_
    refine X_iload d_Model_kinds_89 rfl ?_
    refine X_if_ne (tgt := 99) d_Model_kinds_91 (by decide) (fun _ => ?_) (fun c_3 => absurd c_3 (by decide))
    refine X_iload d_Model_kinds_99 rfl ?_
    refine X_astI (show xYf 60 = some (sInts 5) from rfl) (ixin (show nI i = nI i from rfl) (show i < 5 by omega) (by decide)) d_Model_kinds_101 ?_
    rw [ixcl (x := nI i) (show nI i = nI i from rfl) (show i < 2 ^ 31 by omega)]
    refine X_aload_n d_Model_kinds_102 rfl rfl ?_
    refine X_getR (r := 61) fg_Model_13 (show xYf 59 = some sModel from rfl) rfl d_Model_kinds_103 ?_
    refine X_iload_n d_Model_kinds_106 rfl rfl ?_
    refine X_iload d_Model_kinds_107 rfl ?_
    refine X_iconst (v := 1) d_Model_kinds_109 rfl ?_
    refine X_icmp_ne (tgt := 118) d_Model_kinds_110 (by decide) (fun c_4 => absurd c_4 (by decide)) (fun _ => ?_)
    refine X_iload d_Model_kinds_113 rfl ?_
    refine X_goto (tgt := 120) d_Model_kinds_115 (by decide) ?_
    refine X_astI (show xYf 61 = some (sInts 5) from rfl) (ixin (show nI i = nI i from rfl) (show i < 5 by omega) (by decide)) d_Model_kinds_120 ?_
    rw [ixcl (x := nI i) (show nI i = nI i from rfl) (show i < 2 ^ 31 by omega)]
    refine X_aload_n d_Model_kinds_121 rfl rfl ?_
    refine X_getR (r := 62) fg_Model_16 (show xYf 59 = some sModel from rfl) rfl d_Model_kinds_122 ?_
    refine X_bipush (v := 6) d_Model_kinds_125 rfl ?_
    refine X_iload_n d_Model_kinds_127 rfl rfl ?_
    refine X_imul d_Model_kinds_128 ?_
    refine X_iconst (v := 1) d_Model_kinds_129 rfl ?_
    refine X_iadd d_Model_kinds_130 ?_
    refine X_iload d_Model_kinds_131 rfl ?_
    refine X_iconst (v := 2) d_Model_kinds_133 rfl ?_
    refine X_icmp_ne (tgt := 142) d_Model_kinds_134 (by decide) (fun _ => ?_) (fun c_5 => absurd c_5 (by decide))
    refine X_iload d_Model_kinds_142 rfl ?_
    refine X_astI (show xYf 62 = some (sInts 30) from rfl) (ixin (ixA (ixM (show (6 : Int32) = nI 6 from rfl) (show nI i = nI i from rfl)) (show (1 : Int32) = nI 1 from rfl)) (show 6 * i + 1 < 30 by omega) (by decide)) d_Model_kinds_144 ?_
    rw [ixcl (x := (6 * (nI i)) + 1) (ixA (ixM (show (6 : Int32) = nI 6 from rfl) (show nI i = nI i from rfl)) (show (1 : Int32) = nI 1 from rfl)) (show 6 * i + 1 < 2 ^ 31 by omega)]
    rw [mKV_up]
    refine X_iload d_Model_kinds_145 rfl ?_
    refine X_aload_n d_Model_kinds_147 rfl rfl ?_
    refine X_iload_n d_Model_kinds_148 rfl rfl ?_
    refine X_iload_n d_Model_kinds_149 rfl rfl ?_
    refine X_iload_n d_Model_kinds_150 rfl rfl ?_
    refine X_iload d_Model_kinds_151 rfl ?_
    refine X_callV (v := .int (tUnl S (fun k => I 69 (40 * q + k)) (sz q) n sp (kVar 1 (nI k) (mRow I i)))) (rest := [.int b]) (by have q0 := c_ulKind l G nn (d := d - 1) (by omega) I ln S hK sz hsz q i hq hi n sp hn hsp (I 60 i) (nI k) (I 62 (6 * i + 1)) ⟨nI_pos (by omega), (nI_leI (b := 9) (by omega) (by decide)).mpr (by omega)⟩ f e; rw [kv3_1] at q0; exact q0) lk_Model_unlike ml_Model_240 (xm_obj (show xYf 59 = some sModel from rfl)) rfl rfl (Nat.le_of_ble_eq_true rfl) (xRok (d' := d - 1) (by omega) (by decide)) ⟨Nat.le_refl _, Nat.le_refl _⟩ d_Model_kinds_153 rfl ?_
    refine X_iconst (v := -1) d_Model_kinds_156 rfl ?_
    refine X_icmp_ne (tgt := 167) d_Model_kinds_157 (by decide) (fun c_6 => ?_) (fun c_6 => ?_)
    ·
      refine X_iconst (v := 0) d_Model_kinds_167 rfl ?_
      refine X_ior d_Model_kinds_168 ?_
      refine X_istore d_Model_kinds_169 (by decide) [1, 2, 3, 4, 5, 6, 7, 8, 9, 0, 10] (L' := [(0, .ref (xg G 59)), (1, .int (nI q)), (2, .int (nI i)), (3, .int n), (4, .int sp), (5, .int 1), (7, .int (I 60 i)), (8, .int (I 61 i)), (9, .int (I 62 (6 * i + 1))), (10, .int (b ||| 0)), (11, .int (nI k))]) rfl ?_
      refine X_iinc d_Model_kinds_171 rfl (v := (nI k) + 1) rfl (by decide) [1, 2, 3, 4, 5, 6, 7, 8, 9, 10, 0] (L' := [(0, .ref (xg G 59)), (1, .int (nI q)), (2, .int (nI i)), (3, .int n), (4, .int sp), (5, .int 1), (7, .int (I 60 i)), (8, .int (I 61 i)), (9, .int (I 62 (6 * i + 1))), (10, .int (b ||| 0)), (11, .int ((nI k) + 1))]) rfl ?_
      refine X_goto (tgt := 67) d_Model_kinds_174 (by decide) ?_
      have hU : ¬ (fun v => tUnl S (fun k => I 69 (40 * q + k)) (sz q) n sp (kVar 1 (nI v) (mRow I i))) k = -1 := c_6
      rw [show b ||| 0 = b from Int32.or_zero]
      have key := ih hlt b (I 60 i) (nI k) (I 62 (6 * i + 1)) (ulF S (fun k => I 69 (40 * q + k)) (sz q) n sp (kVar 1 (nI k) (mRow I i))) (ulE S (fun k => I 69 (40 * q + k)) (sz q) n sp (kVar 1 (nI k) (mRow I i)))
      unfold Q_Model_kinds_1 at key
      rw [hz, wnF, wnE, mBits, if_neg hU, nI_1]
      exact key
    ·
      refine X_iconst (v := 1) d_Model_kinds_160 rfl ?_
      refine X_iload d_Model_kinds_161 rfl ?_
      refine X_ishl d_Model_kinds_163 ?_
      refine X_goto (tgt := 168) d_Model_kinds_164 (by decide) ?_
      refine X_ior d_Model_kinds_168 ?_
      refine X_istore d_Model_kinds_169 (by decide) [1, 2, 3, 4, 5, 6, 7, 8, 9, 0, 10] (L' := [(0, .ref (xg G 59)), (1, .int (nI q)), (2, .int (nI i)), (3, .int n), (4, .int sp), (5, .int 1), (7, .int (I 60 i)), (8, .int (I 61 i)), (9, .int (I 62 (6 * i + 1))), (10, .int (b ||| (1 <<< ((nI k) &&& 31)))), (11, .int (nI k))]) rfl ?_
      refine X_iinc d_Model_kinds_171 rfl (v := (nI k) + 1) rfl (by decide) [1, 2, 3, 4, 5, 6, 7, 8, 9, 10, 0] (L' := [(0, .ref (xg G 59)), (1, .int (nI q)), (2, .int (nI i)), (3, .int n), (4, .int sp), (5, .int 1), (7, .int (I 60 i)), (8, .int (I 61 i)), (9, .int (I 62 (6 * i + 1))), (10, .int (b ||| (1 <<< ((nI k) &&& 31)))), (11, .int ((nI k) + 1))]) rfl ?_
      refine X_goto (tgt := 67) d_Model_kinds_174 (by decide) ?_
      have hU : (fun v => tUnl S (fun k => I 69 (40 * q + k)) (sz q) n sp (kVar 1 (nI v) (mRow I i))) k = -1 := c_6
      have key := ih hlt (b ||| (1 <<< ((nI k) &&& 31))) (I 60 i) (nI k) (I 62 (6 * i + 1)) (ulF S (fun k => I 69 (40 * q + k)) (sz q) n sp (kVar 1 (nI k) (mRow I i))) (ulE S (fun k => I 69 (40 * q + k)) (sz q) n sp (kVar 1 (nI k) (mRow I i)))
      unfold Q_Model_kinds_1 at key
      rw [hz, wnF, wnE, mBits, if_pos hU, nI_1]
      exact key
def Q_Model_kinds_2 (l : Launch) (G : xG) (d nn : Nat) (I : xI) (q i : Nat) (S : xSay) (sz : Nat → Nat) (n sp : Int32) (k : Nat) (b x y z : Int32) (f : Nat → Int32) (e : Int32) : Prop := XW l G (xR d 0 0) y_Model_kinds b_Model_kinds 12 (some .int) xK0 (xZ G nn (xm G xYf (xup I 59 (sc (I 59) (wnF (fun v _ => ulF S (fun k => I 69 (40 * q + k)) (sz q) n sp (kVar 2 (nI v) (mRow I i))) (10 - k) k f) (wnE (fun v _ => ulE S (fun k => I 69 (40 * q + k)) (sz q) n sp (kVar 2 (nI v) (mRow I i))) (10 - k) k e)))) (some (.int (mBits (fun v => tUnl S (fun k => I 69 (40 * q + k)) (sz q) n sp (kVar 2 (nI v) (mRow I i))) (10 - k) k b))) 0 0) nn (xm G xYf (xup (mKV I i x y z) 59 (sc (I 59) f e))) 0 0 67 [(0, .ref (xg G 59)), (1, .int (nI q)), (2, .int (nI i)), (3, .int n), (4, .int sp), (5, .int 2), (7, .int (I 60 i)), (8, .int (I 61 i)), (9, .int (I 62 (6 * i + 1))), (10, .int b), (11, .int (nI k))] []
theorem w_Model_kinds_2 (l : Launch) (G : xG) {d : Nat} (nn : Nat) (hd : 10 ≤ d) (I : xI) (ln : Nat) (S : xSay) (hK : mK I ln S) (sz : Nat → Nat) (hsz : msOK I sz) (q i : Nat) (hq : q < 4) (hi : i < 5) (n sp : Int32) (hn : xin n (-40) 40 = true) (hsp : xsp sp = true) (hm : ¬ I 61 i < 0 ∧ I 61 i ≤ 9) (k : Nat) (hk : k ≤ 10) (ih : k < 10 → ∀ b x y z f e, Q_Model_kinds_2 l G d nn I q i S sz n sp (k + 1) b x y z f e) (b x y z : Int32) (f : Nat → Int32) (e : Int32) : Q_Model_kinds_2 l G d nn I q i S sz n sp k b x y z f e := by
  unfold Q_Model_kinds_2
  refine X_iload d_Model_kinds_67 rfl ?_
  refine X_iload d_Model_kinds_69 rfl ?_
  refine X_if_ne (tgt := 79) d_Model_kinds_71 (by decide) (fun _ => ?_) (fun c_1 => absurd c_1 (by decide))
  refine X_bipush (v := 10) d_Model_kinds_79 rfl ?_
  refine X_icmp_ge (tgt := 177) d_Model_kinds_81 (by decide) (fun c_2 => ?_) (fun c_2 => ?_)
  ·
    refine X_aload_n d_Model_kinds_177 rfl rfl ?_
    refine X_getR (r := 60) fg_Model_7 (show xYf 59 = some sModel from rfl) rfl d_Model_kinds_178 ?_
    refine X_iload_n d_Model_kinds_181 rfl rfl ?_
    refine X_iload d_Model_kinds_182 rfl ?_
    refine X_astI (show xYf 60 = some (sInts 5) from rfl) (ixin (show nI i = nI i from rfl) (show i < 5 by omega) (by decide)) d_Model_kinds_184 ?_
    rw [ixcl (x := nI i) (show nI i = nI i from rfl) (show i < 2 ^ 31 by omega)]
    refine X_aload_n d_Model_kinds_185 rfl rfl ?_
    refine X_getR (r := 61) fg_Model_13 (show xYf 59 = some sModel from rfl) rfl d_Model_kinds_186 ?_
    refine X_iload_n d_Model_kinds_189 rfl rfl ?_
    refine X_iload d_Model_kinds_190 rfl ?_
    refine X_astI (show xYf 61 = some (sInts 5) from rfl) (ixin (show nI i = nI i from rfl) (show i < 5 by omega) (by decide)) d_Model_kinds_192 ?_
    rw [ixcl (x := nI i) (show nI i = nI i from rfl) (show i < 2 ^ 31 by omega)]
    refine X_aload_n d_Model_kinds_193 rfl rfl ?_
    refine X_getR (r := 62) fg_Model_16 (show xYf 59 = some sModel from rfl) rfl d_Model_kinds_194 ?_
    refine X_bipush (v := 6) d_Model_kinds_197 rfl ?_
    refine X_iload_n d_Model_kinds_199 rfl rfl ?_
    refine X_imul d_Model_kinds_200 ?_
    refine X_iconst (v := 1) d_Model_kinds_201 rfl ?_
    refine X_iadd d_Model_kinds_202 ?_
    refine X_iload d_Model_kinds_203 rfl ?_
    refine X_astI (show xYf 62 = some (sInts 30) from rfl) (ixin (ixA (ixM (show (6 : Int32) = nI 6 from rfl) (show nI i = nI i from rfl)) (show (1 : Int32) = nI 1 from rfl)) (show 6 * i + 1 < 30 by omega) (by decide)) d_Model_kinds_205 ?_
    rw [ixcl (x := (6 * (nI i)) + 1) (ixA (ixM (show (6 : Int32) = nI 6 from rfl) (show nI i = nI i from rfl)) (show (1 : Int32) = nI 1 from rfl)) (show 6 * i + 1 < 2 ^ 31 by omega)]
    rw [mKV_up, mKV_self]
    refine X_iload d_Model_kinds_206 rfl ?_
    have hz : 10 - k = 0 := by have := nI_done hk (by decide) c_2; omega
    rw [hz]
    exact X_iret rfl rfl (xle_rf _) d_Model_kinds_208
  ·
    have hlt : k < 10 := nI_more hk (by omega) c_2
    have hz : 10 - k = (10 - (k + 1)) + 1 := by omega
    refine X_aload_n d_Model_kinds_84 rfl rfl ?_
    refine X_getR (r := 60) fg_Model_7 (show xYf 59 = some sModel from rfl) rfl d_Model_kinds_85 ?_
    refine X_iload_n d_Model_kinds_88 rfl rfl ?_
    refine X_iload d_Model_kinds_89 rfl ?_
    refine X_if_ne (tgt := 99) d_Model_kinds_91 (by decide) (fun _ => ?_) (fun c_3 => absurd c_3 (by decide))
    refine X_iload d_Model_kinds_99 rfl ?_
    refine X_astI (show xYf 60 = some (sInts 5) from rfl) (ixin (show nI i = nI i from rfl) (show i < 5 by omega) (by decide)) d_Model_kinds_101 ?_
    rw [ixcl (x := nI i) (show nI i = nI i from rfl) (show i < 2 ^ 31 by omega)]
    refine X_aload_n d_Model_kinds_102 rfl rfl ?_
    refine X_getR (r := 61) fg_Model_13 (show xYf 59 = some sModel from rfl) rfl d_Model_kinds_103 ?_
    refine X_iload_n d_Model_kinds_106 rfl rfl ?_
    refine X_iload d_Model_kinds_107 rfl ?_
    refine X_iconst (v := 1) d_Model_kinds_109 rfl ?_
    refine X_icmp_ne (tgt := 118) d_Model_kinds_110 (by decide) (fun _ => ?_) (fun c_4 => absurd c_4 (by decide))
    refine X_iload d_Model_kinds_118 rfl ?_
    refine X_astI (show xYf 61 = some (sInts 5) from rfl) (ixin (show nI i = nI i from rfl) (show i < 5 by omega) (by decide)) d_Model_kinds_120 ?_
    rw [ixcl (x := nI i) (show nI i = nI i from rfl) (show i < 2 ^ 31 by omega)]
    refine X_aload_n d_Model_kinds_121 rfl rfl ?_
    refine X_getR (r := 62) fg_Model_16 (show xYf 59 = some sModel from rfl) rfl d_Model_kinds_122 ?_
    refine X_bipush (v := 6) d_Model_kinds_125 rfl ?_
    refine X_iload_n d_Model_kinds_127 rfl rfl ?_
    refine X_imul d_Model_kinds_128 ?_
    refine X_iconst (v := 1) d_Model_kinds_129 rfl ?_
    refine X_iadd d_Model_kinds_130 ?_
    refine X_iload d_Model_kinds_131 rfl ?_
    refine X_iconst (v := 2) d_Model_kinds_133 rfl ?_
    refine X_icmp_ne (tgt := 142) d_Model_kinds_134 (by decide) (fun c_5 => absurd c_5 (by decide)) (fun _ => ?_)
    refine X_iload d_Model_kinds_137 rfl ?_
    refine X_goto (tgt := 144) d_Model_kinds_139 (by decide) ?_
    refine X_astI (show xYf 62 = some (sInts 30) from rfl) (ixin (ixA (ixM (show (6 : Int32) = nI 6 from rfl) (show nI i = nI i from rfl)) (show (1 : Int32) = nI 1 from rfl)) (show 6 * i + 1 < 30 by omega) (by decide)) d_Model_kinds_144 ?_
    rw [ixcl (x := (6 * (nI i)) + 1) (ixA (ixM (show (6 : Int32) = nI 6 from rfl) (show nI i = nI i from rfl)) (show (1 : Int32) = nI 1 from rfl)) (show 6 * i + 1 < 2 ^ 31 by omega)]
    rw [mKV_up]
    refine X_iload d_Model_kinds_145 rfl ?_
    refine X_aload_n d_Model_kinds_147 rfl rfl ?_
    refine X_iload_n d_Model_kinds_148 rfl rfl ?_
    refine X_iload_n d_Model_kinds_149 rfl rfl ?_
    refine X_iload_n d_Model_kinds_150 rfl rfl ?_
    refine X_iload d_Model_kinds_151 rfl ?_
    refine X_callV (v := .int (tUnl S (fun k => I 69 (40 * q + k)) (sz q) n sp (kVar 2 (nI k) (mRow I i)))) (rest := [.int b]) (by have q0 := c_ulKind l G nn (d := d - 1) (by omega) I ln S hK sz hsz q i hq hi n sp hn hsp (I 60 i) (I 61 i) (nI k) hm f e; rw [kv3_2] at q0; exact q0) lk_Model_unlike ml_Model_240 (xm_obj (show xYf 59 = some sModel from rfl)) rfl rfl (Nat.le_of_ble_eq_true rfl) (xRok (d' := d - 1) (by omega) (by decide)) ⟨Nat.le_refl _, Nat.le_refl _⟩ d_Model_kinds_153 rfl ?_
    refine X_iconst (v := -1) d_Model_kinds_156 rfl ?_
    refine X_icmp_ne (tgt := 167) d_Model_kinds_157 (by decide) (fun c_6 => ?_) (fun c_6 => ?_)
    ·
      refine X_iconst (v := 0) d_Model_kinds_167 rfl ?_
      refine X_ior d_Model_kinds_168 ?_
      refine X_istore d_Model_kinds_169 (by decide) [1, 2, 3, 4, 5, 6, 7, 8, 9, 0, 10] (L' := [(0, .ref (xg G 59)), (1, .int (nI q)), (2, .int (nI i)), (3, .int n), (4, .int sp), (5, .int 2), (7, .int (I 60 i)), (8, .int (I 61 i)), (9, .int (I 62 (6 * i + 1))), (10, .int (b ||| 0)), (11, .int (nI k))]) rfl ?_
      refine X_iinc d_Model_kinds_171 rfl (v := (nI k) + 1) rfl (by decide) [1, 2, 3, 4, 5, 6, 7, 8, 9, 10, 0] (L' := [(0, .ref (xg G 59)), (1, .int (nI q)), (2, .int (nI i)), (3, .int n), (4, .int sp), (5, .int 2), (7, .int (I 60 i)), (8, .int (I 61 i)), (9, .int (I 62 (6 * i + 1))), (10, .int (b ||| 0)), (11, .int ((nI k) + 1))]) rfl ?_
      refine X_goto (tgt := 67) d_Model_kinds_174 (by decide) ?_
      have hU : ¬ (fun v => tUnl S (fun k => I 69 (40 * q + k)) (sz q) n sp (kVar 2 (nI v) (mRow I i))) k = -1 := c_6
      rw [show b ||| 0 = b from Int32.or_zero]
      have key := ih hlt b (I 60 i) (I 61 i) (nI k) (ulF S (fun k => I 69 (40 * q + k)) (sz q) n sp (kVar 2 (nI k) (mRow I i))) (ulE S (fun k => I 69 (40 * q + k)) (sz q) n sp (kVar 2 (nI k) (mRow I i)))
      unfold Q_Model_kinds_2 at key
      rw [hz, wnF, wnE, mBits, if_neg hU, nI_1]
      exact key
    ·
      refine X_iconst (v := 1) d_Model_kinds_160 rfl ?_
      refine X_iload d_Model_kinds_161 rfl ?_
      refine X_ishl d_Model_kinds_163 ?_
      refine X_goto (tgt := 168) d_Model_kinds_164 (by decide) ?_
      refine X_ior d_Model_kinds_168 ?_
      refine X_istore d_Model_kinds_169 (by decide) [1, 2, 3, 4, 5, 6, 7, 8, 9, 0, 10] (L' := [(0, .ref (xg G 59)), (1, .int (nI q)), (2, .int (nI i)), (3, .int n), (4, .int sp), (5, .int 2), (7, .int (I 60 i)), (8, .int (I 61 i)), (9, .int (I 62 (6 * i + 1))), (10, .int (b ||| (1 <<< ((nI k) &&& 31)))), (11, .int (nI k))]) rfl ?_
      refine X_iinc d_Model_kinds_171 rfl (v := (nI k) + 1) rfl (by decide) [1, 2, 3, 4, 5, 6, 7, 8, 9, 10, 0] (L' := [(0, .ref (xg G 59)), (1, .int (nI q)), (2, .int (nI i)), (3, .int n), (4, .int sp), (5, .int 2), (7, .int (I 60 i)), (8, .int (I 61 i)), (9, .int (I 62 (6 * i + 1))), (10, .int (b ||| (1 <<< ((nI k) &&& 31)))), (11, .int ((nI k) + 1))]) rfl ?_
      refine X_goto (tgt := 67) d_Model_kinds_174 (by decide) ?_
      have hU : (fun v => tUnl S (fun k => I 69 (40 * q + k)) (sz q) n sp (kVar 2 (nI v) (mRow I i))) k = -1 := c_6
      have key := ih hlt (b ||| (1 <<< ((nI k) &&& 31))) (I 60 i) (I 61 i) (nI k) (ulF S (fun k => I 69 (40 * q + k)) (sz q) n sp (kVar 2 (nI k) (mRow I i))) (ulE S (fun k => I 69 (40 * q + k)) (sz q) n sp (kVar 2 (nI k) (mRow I i)))
      unfold Q_Model_kinds_2 at key
      rw [hz, wnF, wnE, mBits, if_pos hU, nI_1]
      exact key
def aKindsM (hc : Nat) (L : xSay) (R : Nat → Nat → Int32) (srt : Nat → Int32) (sz : Nat → Nat) (cl : Nat → Nat → Int32) (s h n sp sort : Int32) : Int32 := if mTold hc srt s h n sp = 0 then (if xin sort 0 2 = true then mBits (fun v => tUnl L (cl s.toNatClampNeg) (sz s.toNatClampNeg) n sp (kVar sort (nI v) (R h.toNatClampNeg))) (if sort = 0 then 6 else 10) 0 0 else -7) else mTold hc srt s h n sp
theorem c_Model_kinds (l : Launch) (G : xG) {d : Nat} (nn : Nat) (hd : 10 ≤ d) (I : xI) (hc tc ln : Nat) (SS : Nat → xSay) (hK0 : mOK I hc tc ln SS) (sz : Nat → Nat) (hsz : msOK I sz) (s h n sp sort : Int32) : XM l G d y_Model_kinds b_Model_kinds 12 (some .int) 0 0 xK0 [.ref (xg G 59), .int s, .int h, .int n, .int sp, .int sort] nn (xm G xYf I) (some (.int (aKindsM hc (SS ln) (mRow I) (I 67) sz (fun q k => I 69 (40 * q + k)) s h n sp sort))) nn (xm G xYf (if mTold hc (I 67) s h n sp = 0 ∧ xin sort 0 2 = true then xup I 59 (sc (I 59) (wnF (fun v _ => ulF (SS ln) (fun k => I 69 (40 * s.toNatClampNeg + k)) (sz s.toNatClampNeg) n sp (kVar sort (nI v) (mRow I h.toNatClampNeg))) (if sort = 0 then 6 else 10) 0 (mCur I)) (wnE (fun v _ => ulE (SS ln) (fun k => I 69 (40 * s.toNatClampNeg + k)) (sz s.toNatClampNeg) n sp (kVar sort (nI v) (mRow I h.toNatClampNeg))) (if sort = 0 then 6 else 10) 0 (I 59 33))) else I)) := by
  obtain ⟨⟨h0, h5⟩, ⟨h8, h6⟩, ⟨h9, hl⟩, hTs, hR⟩ := id hK0
  have hK : mK I ln (SS ln) := ⟨hTs ln hl, h9, by omega⟩
  generalize hSS : SS ln = S at hK ⊢
  refine XM.of (by decide) (Nat.le_of_ble_eq_true rfl) (L := [(0, .ref (xg G 59)), (1, .int s), (2, .int h), (3, .int n), (4, .int sp), (5, .int sort)]) rfl ?_
  refine X_aload_n d_Model_kinds_0 rfl rfl ?_
  refine X_iload_n d_Model_kinds_1 rfl rfl ?_
  refine X_iload_n d_Model_kinds_2 rfl rfl ?_
  refine X_iload_n d_Model_kinds_3 rfl rfl ?_
  refine X_iload d_Model_kinds_4 rfl ?_
  refine X_callV (v := .int (mTold hc (I 67) s h n sp)) (rest := []) (c_Model_toldWrong l G nn (by omega) I hc tc ln SS hK0 s h n sp) lk_Model_toldWrong ml_Model_237 (xm_obj (show xYf 59 = some sModel from rfl)) rfl rfl (Nat.le_of_ble_eq_true rfl) (xRok (d' := d - 1) (by omega) (by decide)) ⟨Nat.le_refl _, Nat.le_refl _⟩ d_Model_kinds_6 rfl ?_
  refine X_istore d_Model_kinds_9 (by decide) [1, 2, 3, 4, 5, 6, 0] (L' := [(0, .ref (xg G 59)), (1, .int s), (2, .int h), (3, .int n), (4, .int sp), (5, .int sort), (6, .int (mTold hc (I 67) s h n sp))]) rfl ?_
  refine X_iload d_Model_kinds_11 rfl ?_
  refine X_if_eq (tgt := 19) d_Model_kinds_13 (by decide) (fun c_1 => ?_) (fun c_1 => ?_)
  ·
    obtain ⟨q, i, hq, hi, rfl, rfl, ht, hn, hsp⟩ := mTold_ok h5 c_1
    refine X_iload d_Model_kinds_19 rfl ?_
    refine X_iconst (v := 0) d_Model_kinds_21 rfl ?_
    refine X_iconst (v := 2) d_Model_kinds_22 rfl ?_
    refine X_callS (v := .int (xb (xin sort 0 2))) (rest := []) (c_Model_in l G nn _ (by omega) sort 0 2) lk_Model_in ml_Model_66 rfl (Nat.le_of_ble_eq_true rfl) (xRok (d' := d - 1) (by omega) (by decide)) ⟨Nat.le_refl _, Nat.le_refl _⟩ d_Model_kinds_23 rfl ?_
    refine X_ifb_ne (tgt := 32) d_Model_kinds_26 (by decide) (fun c_2 => ?_) (fun c_2 => ?_)
    ·
      rcases x012 c_2 with rfl | rfl | rfl
      ·
        refine X_aload_n d_Model_kinds_32 rfl rfl ?_
        refine X_getR (r := 60) fg_Model_7 (show xYf 59 = some sModel from rfl) rfl d_Model_kinds_33 ?_
        refine X_iload_n d_Model_kinds_36 rfl rfl ?_
        refine X_aldI (v := I 60 i) (show xYf 60 = some (sInts 5) from rfl) (ixin (show nI i = nI i from rfl) (show i < 5 by omega) (by decide)) ((ixv (show nI i = nI i from rfl) (show i < 2 ^ 31 by omega) (rfl))) d_Model_kinds_37 ?_
        refine X_istore d_Model_kinds_38 (by decide) [1, 2, 3, 4, 5, 6, 7, 0] (L' := [(0, .ref (xg G 59)), (1, .int (nI q)), (2, .int (nI i)), (3, .int n), (4, .int sp), (5, .int 0), (6, .int (mTold hc (I 67) (nI q) (nI i) n sp)), (7, .int (I 60 i))]) rfl ?_
        refine X_aload_n d_Model_kinds_40 rfl rfl ?_
        refine X_getR (r := 61) fg_Model_13 (show xYf 59 = some sModel from rfl) rfl d_Model_kinds_41 ?_
        refine X_iload_n d_Model_kinds_44 rfl rfl ?_
        refine X_aldI (v := I 61 i) (show xYf 61 = some (sInts 5) from rfl) (ixin (show nI i = nI i from rfl) (show i < 5 by omega) (by decide)) ((ixv (show nI i = nI i from rfl) (show i < 2 ^ 31 by omega) (rfl))) d_Model_kinds_45 ?_
        refine X_istore d_Model_kinds_46 (by decide) [1, 2, 3, 4, 5, 6, 7, 8, 0] (L' := [(0, .ref (xg G 59)), (1, .int (nI q)), (2, .int (nI i)), (3, .int n), (4, .int sp), (5, .int 0), (6, .int (mTold hc (I 67) (nI q) (nI i) n sp)), (7, .int (I 60 i)), (8, .int (I 61 i))]) rfl ?_
        refine X_aload_n d_Model_kinds_48 rfl rfl ?_
        refine X_getR (r := 62) fg_Model_16 (show xYf 59 = some sModel from rfl) rfl d_Model_kinds_49 ?_
        refine X_bipush (v := 6) d_Model_kinds_52 rfl ?_
        refine X_iload_n d_Model_kinds_54 rfl rfl ?_
        refine X_imul d_Model_kinds_55 ?_
        refine X_iconst (v := 1) d_Model_kinds_56 rfl ?_
        refine X_iadd d_Model_kinds_57 ?_
        refine X_aldI (v := I 62 (6 * i + 1)) (show xYf 62 = some (sInts 30) from rfl) (ixin (ixA (ixM (show (6 : Int32) = nI 6 from rfl) (show nI i = nI i from rfl)) (show (1 : Int32) = nI 1 from rfl)) (show 6 * i + 1 < 30 by omega) (by decide)) ((ixv (ixA (ixM (show (6 : Int32) = nI 6 from rfl) (show nI i = nI i from rfl)) (show (1 : Int32) = nI 1 from rfl)) (show 6 * i + 1 < 2 ^ 31 by omega) (rfl))) d_Model_kinds_58 ?_
        refine X_istore d_Model_kinds_59 (by decide) [1, 2, 3, 4, 5, 6, 7, 8, 9, 0] (L' := [(0, .ref (xg G 59)), (1, .int (nI q)), (2, .int (nI i)), (3, .int n), (4, .int sp), (5, .int 0), (6, .int (mTold hc (I 67) (nI q) (nI i) n sp)), (7, .int (I 60 i)), (8, .int (I 61 i)), (9, .int (I 62 (6 * i + 1)))]) rfl ?_
        refine X_iconst (v := 0) d_Model_kinds_61 rfl ?_
        refine X_istore d_Model_kinds_62 (by decide) [1, 2, 3, 4, 5, 6, 7, 8, 9, 10, 0] (L' := [(0, .ref (xg G 59)), (1, .int (nI q)), (2, .int (nI i)), (3, .int n), (4, .int sp), (5, .int 0), (6, .int (mTold hc (I 67) (nI q) (nI i) n sp)), (7, .int (I 60 i)), (8, .int (I 61 i)), (9, .int (I 62 (6 * i + 1))), (10, .int 0)]) rfl ?_
        refine X_iconst (v := 0) d_Model_kinds_64 rfl ?_
        refine X_istore d_Model_kinds_65 (by decide) [1, 2, 3, 4, 5, 6, 7, 8, 9, 10, 11, 0] (L' := [(0, .ref (xg G 59)), (1, .int (nI q)), (2, .int (nI i)), (3, .int n), (4, .int sp), (5, .int 0), (6, .int (mTold hc (I 67) (nI q) (nI i) n sp)), (7, .int (I 60 i)), (8, .int (I 61 i)), (9, .int (I 62 (6 * i + 1))), (10, .int 0), (11, .int 0)]) rfl ?_
        have hx := xloop (Q := fun k => ∀ b x y z f e, Q_Model_kinds_0 l G d nn I q i S sz n sp k b x y z f e) (T := 6) (fun k hk ih b x y z f e => w_Model_kinds_0 l G nn hd I ln S hK sz hsz q i hq (by omega) n sp hn hsp (hR i (by omega)).1 k hk ih b x y z f e) 0 (by decide) 0 (I 60 i) (I 61 i) (I 62 (6 * i + 1)) (mCur I) (I 59 33)
        unfold Q_Model_kinds_0 at hx
        rw [mKV_self, sc_self, Nat.sub_zero] at hx
        rw [aKindsM, if_pos c_1, if_pos ⟨c_1, c_2⟩, if_pos c_2, nI_cl (show i < 2 ^ 31 by omega), nI_cl (show q < 2 ^ 31 by omega)]
        refine X_sub [0, 1, 2, 3, 4, 5, 7, 8, 9, 10, 11] (L' := [(0, .ref (xg G 59)), (1, .int (nI q)), (2, .int (nI i)), (3, .int n), (4, .int sp), (5, .int 0), (7, .int (I 60 i)), (8, .int (I 61 i)), (9, .int (I 62 (6 * i + 1))), (10, .int 0), (11, .int 0)]) rfl ?_
        exact hx
      ·
        refine X_aload_n d_Model_kinds_32 rfl rfl ?_
        refine X_getR (r := 60) fg_Model_7 (show xYf 59 = some sModel from rfl) rfl d_Model_kinds_33 ?_
        refine X_iload_n d_Model_kinds_36 rfl rfl ?_
        refine X_aldI (v := I 60 i) (show xYf 60 = some (sInts 5) from rfl) (ixin (show nI i = nI i from rfl) (show i < 5 by omega) (by decide)) ((ixv (show nI i = nI i from rfl) (show i < 2 ^ 31 by omega) (rfl))) d_Model_kinds_37 ?_
        refine X_istore d_Model_kinds_38 (by decide) [1, 2, 3, 4, 5, 6, 7, 0] (L' := [(0, .ref (xg G 59)), (1, .int (nI q)), (2, .int (nI i)), (3, .int n), (4, .int sp), (5, .int 1), (6, .int (mTold hc (I 67) (nI q) (nI i) n sp)), (7, .int (I 60 i))]) rfl ?_
        refine X_aload_n d_Model_kinds_40 rfl rfl ?_
        refine X_getR (r := 61) fg_Model_13 (show xYf 59 = some sModel from rfl) rfl d_Model_kinds_41 ?_
        refine X_iload_n d_Model_kinds_44 rfl rfl ?_
        refine X_aldI (v := I 61 i) (show xYf 61 = some (sInts 5) from rfl) (ixin (show nI i = nI i from rfl) (show i < 5 by omega) (by decide)) ((ixv (show nI i = nI i from rfl) (show i < 2 ^ 31 by omega) (rfl))) d_Model_kinds_45 ?_
        refine X_istore d_Model_kinds_46 (by decide) [1, 2, 3, 4, 5, 6, 7, 8, 0] (L' := [(0, .ref (xg G 59)), (1, .int (nI q)), (2, .int (nI i)), (3, .int n), (4, .int sp), (5, .int 1), (6, .int (mTold hc (I 67) (nI q) (nI i) n sp)), (7, .int (I 60 i)), (8, .int (I 61 i))]) rfl ?_
        refine X_aload_n d_Model_kinds_48 rfl rfl ?_
        refine X_getR (r := 62) fg_Model_16 (show xYf 59 = some sModel from rfl) rfl d_Model_kinds_49 ?_
        refine X_bipush (v := 6) d_Model_kinds_52 rfl ?_
        refine X_iload_n d_Model_kinds_54 rfl rfl ?_
        refine X_imul d_Model_kinds_55 ?_
        refine X_iconst (v := 1) d_Model_kinds_56 rfl ?_
        refine X_iadd d_Model_kinds_57 ?_
        refine X_aldI (v := I 62 (6 * i + 1)) (show xYf 62 = some (sInts 30) from rfl) (ixin (ixA (ixM (show (6 : Int32) = nI 6 from rfl) (show nI i = nI i from rfl)) (show (1 : Int32) = nI 1 from rfl)) (show 6 * i + 1 < 30 by omega) (by decide)) ((ixv (ixA (ixM (show (6 : Int32) = nI 6 from rfl) (show nI i = nI i from rfl)) (show (1 : Int32) = nI 1 from rfl)) (show 6 * i + 1 < 2 ^ 31 by omega) (rfl))) d_Model_kinds_58 ?_
        refine X_istore d_Model_kinds_59 (by decide) [1, 2, 3, 4, 5, 6, 7, 8, 9, 0] (L' := [(0, .ref (xg G 59)), (1, .int (nI q)), (2, .int (nI i)), (3, .int n), (4, .int sp), (5, .int 1), (6, .int (mTold hc (I 67) (nI q) (nI i) n sp)), (7, .int (I 60 i)), (8, .int (I 61 i)), (9, .int (I 62 (6 * i + 1)))]) rfl ?_
        refine X_iconst (v := 0) d_Model_kinds_61 rfl ?_
        refine X_istore d_Model_kinds_62 (by decide) [1, 2, 3, 4, 5, 6, 7, 8, 9, 10, 0] (L' := [(0, .ref (xg G 59)), (1, .int (nI q)), (2, .int (nI i)), (3, .int n), (4, .int sp), (5, .int 1), (6, .int (mTold hc (I 67) (nI q) (nI i) n sp)), (7, .int (I 60 i)), (8, .int (I 61 i)), (9, .int (I 62 (6 * i + 1))), (10, .int 0)]) rfl ?_
        refine X_iconst (v := 0) d_Model_kinds_64 rfl ?_
        refine X_istore d_Model_kinds_65 (by decide) [1, 2, 3, 4, 5, 6, 7, 8, 9, 10, 11, 0] (L' := [(0, .ref (xg G 59)), (1, .int (nI q)), (2, .int (nI i)), (3, .int n), (4, .int sp), (5, .int 1), (6, .int (mTold hc (I 67) (nI q) (nI i) n sp)), (7, .int (I 60 i)), (8, .int (I 61 i)), (9, .int (I 62 (6 * i + 1))), (10, .int 0), (11, .int 0)]) rfl ?_
        have hx := xloop (Q := fun k => ∀ b x y z f e, Q_Model_kinds_1 l G d nn I q i S sz n sp k b x y z f e) (T := 10) (fun k hk ih b x y z f e => w_Model_kinds_1 l G nn hd I ln S hK sz hsz q i hq (by omega) n sp hn hsp (hR i (by omega)).1 k hk ih b x y z f e) 0 (by decide) 0 (I 60 i) (I 61 i) (I 62 (6 * i + 1)) (mCur I) (I 59 33)
        unfold Q_Model_kinds_1 at hx
        rw [mKV_self, sc_self, Nat.sub_zero] at hx
        rw [aKindsM, if_pos c_1, if_pos ⟨c_1, c_2⟩, if_pos c_2, nI_cl (show i < 2 ^ 31 by omega), nI_cl (show q < 2 ^ 31 by omega)]
        refine X_sub [0, 1, 2, 3, 4, 5, 7, 8, 9, 10, 11] (L' := [(0, .ref (xg G 59)), (1, .int (nI q)), (2, .int (nI i)), (3, .int n), (4, .int sp), (5, .int 1), (7, .int (I 60 i)), (8, .int (I 61 i)), (9, .int (I 62 (6 * i + 1))), (10, .int 0), (11, .int 0)]) rfl ?_
        exact hx
      ·
        refine X_aload_n d_Model_kinds_32 rfl rfl ?_
        refine X_getR (r := 60) fg_Model_7 (show xYf 59 = some sModel from rfl) rfl d_Model_kinds_33 ?_
        refine X_iload_n d_Model_kinds_36 rfl rfl ?_
        refine X_aldI (v := I 60 i) (show xYf 60 = some (sInts 5) from rfl) (ixin (show nI i = nI i from rfl) (show i < 5 by omega) (by decide)) ((ixv (show nI i = nI i from rfl) (show i < 2 ^ 31 by omega) (rfl))) d_Model_kinds_37 ?_
        refine X_istore d_Model_kinds_38 (by decide) [1, 2, 3, 4, 5, 6, 7, 0] (L' := [(0, .ref (xg G 59)), (1, .int (nI q)), (2, .int (nI i)), (3, .int n), (4, .int sp), (5, .int 2), (6, .int (mTold hc (I 67) (nI q) (nI i) n sp)), (7, .int (I 60 i))]) rfl ?_
        refine X_aload_n d_Model_kinds_40 rfl rfl ?_
        refine X_getR (r := 61) fg_Model_13 (show xYf 59 = some sModel from rfl) rfl d_Model_kinds_41 ?_
        refine X_iload_n d_Model_kinds_44 rfl rfl ?_
        refine X_aldI (v := I 61 i) (show xYf 61 = some (sInts 5) from rfl) (ixin (show nI i = nI i from rfl) (show i < 5 by omega) (by decide)) ((ixv (show nI i = nI i from rfl) (show i < 2 ^ 31 by omega) (rfl))) d_Model_kinds_45 ?_
        refine X_istore d_Model_kinds_46 (by decide) [1, 2, 3, 4, 5, 6, 7, 8, 0] (L' := [(0, .ref (xg G 59)), (1, .int (nI q)), (2, .int (nI i)), (3, .int n), (4, .int sp), (5, .int 2), (6, .int (mTold hc (I 67) (nI q) (nI i) n sp)), (7, .int (I 60 i)), (8, .int (I 61 i))]) rfl ?_
        refine X_aload_n d_Model_kinds_48 rfl rfl ?_
        refine X_getR (r := 62) fg_Model_16 (show xYf 59 = some sModel from rfl) rfl d_Model_kinds_49 ?_
        refine X_bipush (v := 6) d_Model_kinds_52 rfl ?_
        refine X_iload_n d_Model_kinds_54 rfl rfl ?_
        refine X_imul d_Model_kinds_55 ?_
        refine X_iconst (v := 1) d_Model_kinds_56 rfl ?_
        refine X_iadd d_Model_kinds_57 ?_
        refine X_aldI (v := I 62 (6 * i + 1)) (show xYf 62 = some (sInts 30) from rfl) (ixin (ixA (ixM (show (6 : Int32) = nI 6 from rfl) (show nI i = nI i from rfl)) (show (1 : Int32) = nI 1 from rfl)) (show 6 * i + 1 < 30 by omega) (by decide)) ((ixv (ixA (ixM (show (6 : Int32) = nI 6 from rfl) (show nI i = nI i from rfl)) (show (1 : Int32) = nI 1 from rfl)) (show 6 * i + 1 < 2 ^ 31 by omega) (rfl))) d_Model_kinds_58 ?_
        refine X_istore d_Model_kinds_59 (by decide) [1, 2, 3, 4, 5, 6, 7, 8, 9, 0] (L' := [(0, .ref (xg G 59)), (1, .int (nI q)), (2, .int (nI i)), (3, .int n), (4, .int sp), (5, .int 2), (6, .int (mTold hc (I 67) (nI q) (nI i) n sp)), (7, .int (I 60 i)), (8, .int (I 61 i)), (9, .int (I 62 (6 * i + 1)))]) rfl ?_
        refine X_iconst (v := 0) d_Model_kinds_61 rfl ?_
        refine X_istore d_Model_kinds_62 (by decide) [1, 2, 3, 4, 5, 6, 7, 8, 9, 10, 0] (L' := [(0, .ref (xg G 59)), (1, .int (nI q)), (2, .int (nI i)), (3, .int n), (4, .int sp), (5, .int 2), (6, .int (mTold hc (I 67) (nI q) (nI i) n sp)), (7, .int (I 60 i)), (8, .int (I 61 i)), (9, .int (I 62 (6 * i + 1))), (10, .int 0)]) rfl ?_
        refine X_iconst (v := 0) d_Model_kinds_64 rfl ?_
        refine X_istore d_Model_kinds_65 (by decide) [1, 2, 3, 4, 5, 6, 7, 8, 9, 10, 11, 0] (L' := [(0, .ref (xg G 59)), (1, .int (nI q)), (2, .int (nI i)), (3, .int n), (4, .int sp), (5, .int 2), (6, .int (mTold hc (I 67) (nI q) (nI i) n sp)), (7, .int (I 60 i)), (8, .int (I 61 i)), (9, .int (I 62 (6 * i + 1))), (10, .int 0), (11, .int 0)]) rfl ?_
        have hx := xloop (Q := fun k => ∀ b x y z f e, Q_Model_kinds_2 l G d nn I q i S sz n sp k b x y z f e) (T := 10) (fun k hk ih b x y z f e => w_Model_kinds_2 l G nn hd I ln S hK sz hsz q i hq (by omega) n sp hn hsp (hR i (by omega)).1 k hk ih b x y z f e) 0 (by decide) 0 (I 60 i) (I 61 i) (I 62 (6 * i + 1)) (mCur I) (I 59 33)
        unfold Q_Model_kinds_2 at hx
        rw [mKV_self, sc_self, Nat.sub_zero] at hx
        rw [aKindsM, if_pos c_1, if_pos ⟨c_1, c_2⟩, if_pos c_2, nI_cl (show i < 2 ^ 31 by omega), nI_cl (show q < 2 ^ 31 by omega)]
        refine X_sub [0, 1, 2, 3, 4, 5, 7, 8, 9, 10, 11] (L' := [(0, .ref (xg G 59)), (1, .int (nI q)), (2, .int (nI i)), (3, .int n), (4, .int sp), (5, .int 2), (7, .int (I 60 i)), (8, .int (I 61 i)), (9, .int (I 62 (6 * i + 1))), (10, .int 0), (11, .int 0)]) rfl ?_
        exact hx
    ·
      refine X_bipush (v := -7) d_Model_kinds_29 rfl ?_
      exact X_iret rfl (congrArg (fun q => some (Value.int q)) (by subst hSS; first | (simp [aKindsM, c_1, nI_cl (show q < 2 ^ 31 by omega), nI_cl (show i < 2 ^ 31 by omega), c_2, xl_1_0, xl_1_1, xl_2_0, xl_2_1, xl_2_2, xl_3_0, xl_3_1, xl_3_2, xl_3_3]; done) | (exfalso; simp_all; done) | (clear hTs hR hK0 hK; simp_all [aKindsM, nI_cl (show q < 2 ^ 31 by omega), nI_cl (show i < 2 ^ 31 by omega)]; done))) (xle_of (congrArg (xm G xYf) (by first | (subst hSS; simp [c_1, nI_cl (show q < 2 ^ 31 by omega), nI_cl (show i < 2 ^ 31 by omega), c_2, xl_3_0, xl_3_1, xl_3_2, xl_3_3, xl_2_0, xl_2_1, xl_2_2, xl_1_0, xl_1_1]; done) | (exfalso; simp_all; done)))) d_Model_kinds_31
  ·
    refine X_iload d_Model_kinds_16 rfl ?_
    exact X_iret rfl (congrArg (fun q => some (Value.int q)) (by subst hSS; first | (simp [aKindsM, c_1, xl_1_0, xl_1_1, xl_2_0, xl_2_1, xl_2_2, xl_3_0, xl_3_1, xl_3_2, xl_3_3]; done) | (exfalso; simp_all; done) | (clear hTs hR hK0 hK; simp_all [aKindsM]; done))) (xle_of (congrArg (xm G xYf) (by first | (subst hSS; simp [c_1, xl_3_0, xl_3_1, xl_3_2, xl_3_3, xl_2_0, xl_2_1, xl_2_2, xl_1_0, xl_1_1]; done) | (exfalso; simp_all; done)))) d_Model_kinds_18
