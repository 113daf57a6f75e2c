def fr (t : Nat) (F : xI → xI) : Prop := ∀ (I : xI) (a : Nat), a ≠ 11 → a ≠ t → a ≠ t + 1 → a ≠ t + 2 → F I a = I a
theorem fr_adv (t : Nat) : fr t iAdv := fun I a h _ _ _ => xup_n _ _ h
theorem fr_w (t k : Nat) (v : xI → Int32) : fr t (fun I => xw I 11 k (v I)) := fun I a h _ _ _ => xw_row _ _ _ h
theorem fr_fail (t : Nat) : fr t iFail := fun I a h _ _ _ => xw_row _ _ _ h
theorem fr_inc (t : Nat) : fr t iInc := fun I a h _ _ _ => xw_row _ _ _ h
theorem fr_dec (t : Nat) : fr t iDec := fun I a h _ _ _ => xw_row _ _ _ h
theorem fr_add (t : Nat) (v : Int32) : fr t (iAdd t v) := fun I a _ h0 h1 _ => by
  unfold iAdd
  split
  · rw [xw_row _ _ _ h0, xw_row _ _ _ h1]
  · rfl
theorem fr_end (t : Nat) : fr t (iEnd t) := fun I a _ h0 _ h2 => by
  unfold iEnd
  split
  · rw [xw_row _ _ _ h0, xw_row _ _ _ h2]
  · rfl
theorem fr_exp (t : Nat) (w : Int32) : fr t (iExp w) := fun I a h h0 h1 h2 => by
  have e : iTok w I a = I a := by
    unfold iTok
    split
    · rfl
    · exact fr_fail t I a h h0 h1 h2
  unfold iExp
  split
  · exact e
  · rw [fr_adv t _ a h h0 h1 h2]; exact e
theorem fr_lop {t : Nat} {sub : xI → xI} (hS : fr t sub) (tok item : Int32) : ∀ j, fr t (iLop sub t tok item j)
  | 0 => fun _ _ _ _ _ _ => rfl
  | j + 1 => fun I a h h0 h1 h2 => by
    rw [iLop]
    split
    · rw [fr_lop hS tok item j _ a h h0 h1 h2, fr_add t _ _ a h h0 h1 h2, hS _ a h h0 h1 h2, fr_adv t _ a h h0 h1 h2]
    · rfl
theorem fr_sop {t : Nat} {sub : xI → xI} (hS : fr t sub) : ∀ j, fr t (iSop sub t j)
  | 0 => fun _ _ _ _ _ _ => rfl
  | j + 1 => fun I a h h0 h1 h2 => by
    rw [iSop]
    split
    · rw [fr_sop hS j _ a h h0 h1 h2, fr_add t _ _ a h h0 h1 h2, hS _ a h h0 h1 h2, fr_adv t _ a h h0 h1 h2]
    · rfl
theorem fr_lev {t : Nat} {sub : xI → xI} (hS : fr t sub) (tok item : Int32) : fr t (iLev sub t tok item) := fun I a h h0 h1 h2 => by rw [iLev, fr_lop hS tok item _ _ a h h0 h1 h2, hS _ a h h0 h1 h2]
theorem fr_sum {t : Nat} {sub : xI → xI} (hS : fr t sub) : fr t (iSum sub t) := fun I a h h0 h1 h2 => by rw [iSum, fr_sop hS _ _ a h h0 h1 h2, hS _ a h h0 h1 h2]
theorem fr_not {t : Nat} {nt sum : xI → xI} (hN : fr t nt) (hS : fr t sum) : fr t (iNot nt sum t) := fun I a h h0 h1 h2 => by
  unfold iNot
  split
  · split
    · exact fr_fail t I a h h0 h1 h2
    · rw [fr_add t _ _ a h h0 h1 h2, fr_dec t _ a h h0 h1 h2, hN _ a h h0 h1 h2, fr_adv t _ a h h0 h1 h2, fr_inc t _ a h h0 h1 h2]
  · split
    · rw [fr_add t _ _ a h h0 h1 h2, hS _ a h h0 h1 h2, fr_adv t _ a h h0 h1 h2, hS _ a h h0 h1 h2]
    · exact hS _ a h h0 h1 h2
theorem fr_one {t : Nat} {one orr : xI → xI} (hO : fr t one) (hR : fr t orr) : fr t (iOne one orr t) := fun I a h h0 h1 h2 => by
  unfold iOne
  split
  · rfl
  · split
    · rw [fr_adv t _ a h h0 h1 h2, fr_add t _ _ a h h0 h1 h2]
    · split
      · rw [fr_adv t _ a h h0 h1 h2, fr_add t _ _ a h h0 h1 h2]
      · split
        · split
          · exact fr_fail t I a h h0 h1 h2
          · rw [fr_add t _ _ a h h0 h1 h2, fr_dec t _ a h h0 h1 h2, hO _ a h h0 h1 h2, fr_adv t _ a h h0 h1 h2, fr_inc t _ a h h0 h1 h2]
        · split
          · split
            · exact fr_fail t I a h h0 h1 h2
            · rw [fr_exp t _ _ a h h0 h1 h2, fr_dec t _ a h h0 h1 h2, hR _ a h h0 h1 h2, fr_adv t _ a h h0 h1 h2, fr_inc t _ a h h0 h1 h2]
          · exact fr_fail t I a h h0 h1 h2
theorem fr_id (t : Nat) : fr t id := fun _ _ _ _ _ _ => rfl
theorem fr_or {t : Nat} {nt : xI → xI} (h : fr t nt) : fr t (iOr nt t) := fr_lev (fr_lev h _ _) _ _
theorem fr_lv (t : Nat) : ∀ k, fr t (iLv t k).1 ∧ fr t (iLv t k).2
  | 0 => ⟨fr_one (fr_id t) (fr_id t), fr_not (fr_id t) (fr_sum (fr_lev (fr_one (fr_id t) (fr_id t)) _ _))⟩
  | k + 1 => by
    obtain ⟨g1, g2⟩ := fr_lv t k
    have h1 : fr t (iOne (iLv t k).1 (iOr (iLv t k).2 t) t) := fr_one g1 (fr_or g2)
    exact ⟨h1, fr_not g2 (fr_sum (fr_lev h1 _ _))⟩
theorem fr_E (t : Nat) : fr t (iE t) := fr_or (fr_lv t 5).2
theorem fr_part (t : Nat) (w : Int32) : fr t (iPart t w) := fun I a h h0 h1 h2 => by
  rw [iPart, fr_end t _ a h h0 h1 h2, fr_exp t _ _ a h h0 h1 h2, fr_E t _ a h h0 h1 h2, fr_exp t _ _ a h h0 h1 h2]
theorem fr_beg (t : Nat) : fr t (iBeg t) := fun I a h h0 _ _ => by
  rw [iBeg, iClr, xw_row _ _ _ h, xw_row _ _ _ h, xw_row _ _ _ h, xw_row _ _ _ h0, xw_row _ _ _ h0]
theorem fr_read (t : Nat) : fr t (iRead t) := fun I a h h0 h1 h2 => by
  rw [iRead, fr_exp t _ _ a h h0 h1 h2, fr_part t _ _ a h h0 h1 h2, fr_part t _ _ a h h0 h1 h2, fr_part t _ _ a h h0 h1 h2, fr_adv t _ a h h0 h1 h2, fr_beg t _ a h h0 h1 h2]
def iTake (v : Int32) (I : xI) : xI := if 0 ≤ I 11 2 ∧ I 11 2 < 160 then xw (xw I 12 (I 11 2).toNatClampNeg v) 11 2 (I 11 2 + 1) else I
theorem k_Reader_take (l : Launch) (G : xG) {d : Nat} (nn : Nat) (hd : 1 ≤ d) (I : xI) (v : Int32) : XM l G d y_Reader_take b_Reader_take 2 (none) 0 0 xK0 [.ref (xg G 11), .int v] nn (xm G xYf I) (none) nn (xm G xYf (iTake v I)) := by
  refine XM.of (by decide) (Nat.le_of_ble_eq_true rfl) (L := [(0, .ref (xg G 11)), (1, .int v)]) rfl ?_
  refine X_aload_n d_Reader_take_0 rfl rfl ?_
  refine X_getI (v := I 11 2) fg_Reader_35 (show xYf 11 = some (sReader 12 13) from rfl) rfl (rfl) d_Reader_take_1 ?_
  refine X_if_lt (tgt := 39) d_Reader_take_4 (by decide) (fun c_1 => ?_) (fun c_1 => ?_)
  ·
    exact X_vret rfl rfl (xle_of (congrArg (xm G xYf) (by simp only [iTake]; first | rw [if_pos ⟨by grind, by grind⟩] | rw [if_neg (by grind)]))) d_Reader_take_39
  ·
    refine X_aload_n d_Reader_take_7 rfl rfl ?_
    refine X_getI (v := I 11 2) fg_Reader_35 (show xYf 11 = some (sReader 12 13) from rfl) rfl (rfl) d_Reader_take_8 ?_
    refine X_aload_n d_Reader_take_11 rfl rfl ?_
    refine X_getR (r := 12) fg_Reader_11 (show xYf 11 = some (sReader 12 13) from rfl) rfl d_Reader_take_12 ?_
    refine X_alenI (v := 160) (show xYf 12 = some (sInts 160) from rfl) rfl d_Reader_take_15 ?_
    refine X_icmp_ge (tgt := 39) d_Reader_take_16 (by decide) (fun c_2 => ?_) (fun c_2 => ?_)
    ·
      exact X_vret rfl rfl (xle_of (congrArg (xm G xYf) (by simp only [iTake]; first | rw [if_pos ⟨by grind, by grind⟩] | rw [if_neg (by grind)]))) d_Reader_take_39
    ·
      refine X_aload_n d_Reader_take_19 rfl rfl ?_
      refine X_getR (r := 12) fg_Reader_11 (show xYf 11 = some (sReader 12 13) from rfl) rfl d_Reader_take_20 ?_
      refine X_aload_n d_Reader_take_23 rfl rfl ?_
      refine X_getI (v := I 11 2) fg_Reader_35 (show xYf 11 = some (sReader 12 13) from rfl) rfl (rfl) d_Reader_take_24 ?_
      refine X_iload_n d_Reader_take_27 rfl rfl ?_
      refine X_astI (show xYf 12 = some (sInts 160) from rfl) (xvp (B := 160) (by grind) (by grind) (by decide)) d_Reader_take_28 ?_
      refine X_aload_n d_Reader_take_29 rfl rfl ?_
      refine X_dup d_Reader_take_30 rfl ?_
      refine X_getI (v := I 11 2) fg_Reader_35 (show xYf 11 = some (sReader 12 13) from rfl) rfl (xw_a _ _ _ _ (by decide)) d_Reader_take_31 ?_
      refine X_iconst (v := 1) d_Reader_take_34 rfl ?_
      refine X_iadd d_Reader_take_35 ?_
      refine X_putI fp_Reader_35 (show xYf 11 = some (sReader 12 13) from rfl) rfl d_Reader_take_36 ?_
      exact X_vret rfl rfl (xle_of (congrArg (xm G xYf) (by simp only [iTake]; first | rw [if_pos ⟨by grind, by grind⟩] | rw [if_neg (by grind)]))) d_Reader_take_39
theorem k_Reader_empty (l : Launch) (G : xG) {d : Nat} (nn : Nat) (hd : 1 ≤ d) (I : xI) : XM l G d y_Reader_empty b_Reader_empty 1 (none) 0 0 xK0 [.ref (xg G 11)] nn (xm G xYf I) (none) nn (xm G xYf (xw I 11 2 0)) := by
  refine XM.of (by decide) (Nat.le_of_ble_eq_true rfl) (L := [(0, .ref (xg G 11))]) rfl ?_
  refine X_aload_n d_Reader_empty_0 rfl rfl ?_
  refine X_iconst (v := 0) d_Reader_empty_1 rfl ?_
  refine X_putI fp_Reader_35 (show xYf 11 = some (sReader 12 13) from rfl) rfl d_Reader_empty_2 ?_
  exact X_vret rfl rfl (xle_of (congrArg (xm G xYf) (by rfl))) d_Reader_empty_5
def fdB (k a b c d e : Int32) : Int32 := if k = 0 then a else if k = 1 then b else if k = 2 then c else if k = 3 then d else e
def iFd (a b c d e : Int32) : Nat → Nat → xI → xI
  | 0, _, I => I
  | r + 1, k, I => iFd a b c d e r (k + 1) (iTake (fdB (nI k) a b c d e) I)
def okFeed (n a b c d e : Int32) : Bool := xin n 1 5 && xin a 0 255 && xin b 0 255 && xin c 0 255 && xin d 0 255 && xin e 0 255
def mFeed (I : xI) (n a b c d e : Int32) : xI := if okFeed n a b c d e = true then (if I 11 2 + n ≤ 160 then iFd a b c d e n.toNatClampNeg 0 I else I) else I
def aFeed (I : xI) (n a b c d e : Int32) : Int32 := if okFeed n a b c d e = true then (if I 11 2 + n ≤ 160 then iFd a b c d e n.toNatClampNeg 0 I 11 2 else -4) else -2
def Q_X_feed (l : Launch) (G : xG) (d nn N : Nat) (a b c e v : Int32) (k : Nat) (I : xI) : Prop := XW l G (xR d 0 0) y_X_feed b_X_feed 8 (some .int) xK0 (xZ G nn (xm G xYf (iFd a b c e v (N - k) k I)) (some (.int (iFd a b c e v (N - k) k I 11 2))) 0 0) nn (xm G xYf I) 0 0 71 [(0, .ref (xg G 0)), (1, .int (nI N)), (2, .int a), (3, .int b), (4, .int c), (5, .int e), (6, .int v), (7, .int (nI k))] []
theorem w_X_feed (l : Launch) (G : xG) {d : Nat} (nn : Nat) (hd : 2 ≤ d) (N : Nat) (hN : N ≤ 5) (a b c e v : Int32) (k : Nat) (hk : k ≤ N) (ih : k < N → ∀ I, Q_X_feed l G d nn N a b c e v (k + 1) I) (I : xI) : Q_X_feed l G d nn N a b c e v k I := by
  unfold Q_X_feed
  refine X_iload d_X_feed_71 rfl ?_
  refine X_iload_n d_X_feed_73 rfl rfl ?_
  refine X_icmp_ge (tgt := 133) d_X_feed_74 (by decide) (fun c_1 => ?_) (fun c_1 => ?_)
  ·
    refine X_aload_n d_X_feed_133 rfl rfl ?_
    refine X_getR (r := 11) fg_X_44 (y0 xYok_f) rfl d_X_feed_134 ?_
    refine X_getI (v := I 11 2) fg_X_102 (show xYf 11 = some (sReader 12 13) from rfl) rfl (rfl) d_X_feed_137 ?_
    have hz : N - k = 0 := by have := nI_done hk (by omega) c_1; omega
    rw [hz]
    exact X_iret rfl rfl (xle_rf _) d_X_feed_140
  ·
    refine X_aload_n d_X_feed_77 rfl rfl ?_
    refine X_getR (r := 11) fg_X_44 (y0 xYok_f) rfl d_X_feed_78 ?_
    refine X_iload d_X_feed_81 rfl ?_
    refine X_if_ne (tgt := 90) d_X_feed_83 (by decide) (fun c_2 => ?_) (fun c_2 => ?_)
    ·
      refine X_iload d_X_feed_90 rfl ?_
      refine X_iconst (v := 1) d_X_feed_92 rfl ?_
      refine X_icmp_ne (tgt := 100) d_X_feed_93 (by decide) (fun c_3 => ?_) (fun c_3 => ?_)
      ·
        refine X_iload d_X_feed_100 rfl ?_
        refine X_iconst (v := 2) d_X_feed_102 rfl ?_
        refine X_icmp_ne (tgt := 111) d_X_feed_103 (by decide) (fun c_4 => ?_) (fun c_4 => ?_)
        ·
          refine X_iload d_X_feed_111 rfl ?_
          refine X_iconst (v := 3) d_X_feed_113 rfl ?_
          refine X_icmp_ne (tgt := 122) d_X_feed_114 (by decide) (fun c_5 => ?_) (fun c_5 => ?_)
          ·
            refine X_iload d_X_feed_122 rfl ?_
            refine X_callVv (rest := []) (k_Reader_take l G nn (by omega) I v) lk_Reader_take ml_X_87 (xm_obj (show xYf 11 = some (sReader 12 13) from rfl)) rfl rfl (Nat.le_of_ble_eq_true rfl) (xRok (d' := d - 1) (by omega) (by decide)) ⟨Nat.le_refl _, Nat.le_refl _⟩ d_X_feed_124 rfl ?_
            refine X_iinc d_X_feed_127 rfl (v := (nI k) + 1) rfl (by decide) [1, 2, 3, 4, 5, 6, 7, 0] (L' := [(0, .ref (xg G 0)), (1, .int (nI N)), (2, .int a), (3, .int b), (4, .int c), (5, .int e), (6, .int v), (7, .int ((nI k) + 1))]) rfl ?_
            refine X_goto (tgt := 71) d_X_feed_130 (by decide) ?_
            have hlt := nI_more hk (by omega) c_1
            have hz : N - k = (N - (k + 1)) + 1 := by omega
            have hv : fdB (nI k) a b c e v = v := by simp [fdB, c_2, c_3, c_4, c_5]
            have key := ih hlt (iTake v I)
            unfold Q_X_feed at key
            rw [hz, iFd, hv, nI_1]
            exact key
          ·
            refine X_iload d_X_feed_117 rfl ?_
            refine X_goto (tgt := 124) d_X_feed_119 (by decide) ?_
            refine X_callVv (rest := []) (k_Reader_take l G nn (by omega) I e) lk_Reader_take ml_X_87 (xm_obj (show xYf 11 = some (sReader 12 13) from rfl)) rfl rfl (Nat.le_of_ble_eq_true rfl) (xRok (d' := d - 1) (by omega) (by decide)) ⟨Nat.le_refl _, Nat.le_refl _⟩ d_X_feed_124 rfl ?_
            refine X_iinc d_X_feed_127 rfl (v := (nI k) + 1) rfl (by decide) [1, 2, 3, 4, 5, 6, 7, 0] (L' := [(0, .ref (xg G 0)), (1, .int (nI N)), (2, .int a), (3, .int b), (4, .int c), (5, .int e), (6, .int v), (7, .int ((nI k) + 1))]) rfl ?_
            refine X_goto (tgt := 71) d_X_feed_130 (by decide) ?_
            have hlt := nI_more hk (by omega) c_1
            have hz : N - k = (N - (k + 1)) + 1 := by omega
            have hv : fdB (nI k) a b c e v = e := by simp [fdB, c_2, c_3, c_4, c_5]
            have key := ih hlt (iTake e I)
            unfold Q_X_feed at key
            rw [hz, iFd, hv, nI_1]
            exact key
        ·
          refine X_iload d_X_feed_106 rfl ?_
          refine X_goto (tgt := 124) d_X_feed_108 (by decide) ?_
          refine X_callVv (rest := []) (k_Reader_take l G nn (by omega) I c) lk_Reader_take ml_X_87 (xm_obj (show xYf 11 = some (sReader 12 13) from rfl)) rfl rfl (Nat.le_of_ble_eq_true rfl) (xRok (d' := d - 1) (by omega) (by decide)) ⟨Nat.le_refl _, Nat.le_refl _⟩ d_X_feed_124 rfl ?_
          refine X_iinc d_X_feed_127 rfl (v := (nI k) + 1) rfl (by decide) [1, 2, 3, 4, 5, 6, 7, 0] (L' := [(0, .ref (xg G 0)), (1, .int (nI N)), (2, .int a), (3, .int b), (4, .int c), (5, .int e), (6, .int v), (7, .int ((nI k) + 1))]) rfl ?_
          refine X_goto (tgt := 71) d_X_feed_130 (by decide) ?_
          have hlt := nI_more hk (by omega) c_1
          have hz : N - k = (N - (k + 1)) + 1 := by omega
          have hv : fdB (nI k) a b c e v = c := by simp [fdB, c_2, c_3, c_4]
          have key := ih hlt (iTake c I)
          unfold Q_X_feed at key
          rw [hz, iFd, hv, nI_1]
          exact key
      ·
        refine X_iload_n d_X_feed_96 rfl rfl ?_
        refine X_goto (tgt := 124) d_X_feed_97 (by decide) ?_
        refine X_callVv (rest := []) (k_Reader_take l G nn (by omega) I b) lk_Reader_take ml_X_87 (xm_obj (show xYf 11 = some (sReader 12 13) from rfl)) rfl rfl (Nat.le_of_ble_eq_true rfl) (xRok (d' := d - 1) (by omega) (by decide)) ⟨Nat.le_refl _, Nat.le_refl _⟩ d_X_feed_124 rfl ?_
        refine X_iinc d_X_feed_127 rfl (v := (nI k) + 1) rfl (by decide) [1, 2, 3, 4, 5, 6, 7, 0] (L' := [(0, .ref (xg G 0)), (1, .int (nI N)), (2, .int a), (3, .int b), (4, .int c), (5, .int e), (6, .int v), (7, .int ((nI k) + 1))]) rfl ?_
        refine X_goto (tgt := 71) d_X_feed_130 (by decide) ?_
        have hlt := nI_more hk (by omega) c_1
        have hz : N - k = (N - (k + 1)) + 1 := by omega
        have hv : fdB (nI k) a b c e v = b := by simp [fdB, c_2, c_3]
        have key := ih hlt (iTake b I)
        unfold Q_X_feed at key
        rw [hz, iFd, hv, nI_1]
        exact key
    ·
      refine X_iload_n d_X_feed_86 rfl rfl ?_
      refine X_goto (tgt := 124) d_X_feed_87 (by decide) ?_
      refine X_callVv (rest := []) (k_Reader_take l G nn (by omega) I a) lk_Reader_take ml_X_87 (xm_obj (show xYf 11 = some (sReader 12 13) from rfl)) rfl rfl (Nat.le_of_ble_eq_true rfl) (xRok (d' := d - 1) (by omega) (by decide)) ⟨Nat.le_refl _, Nat.le_refl _⟩ d_X_feed_124 rfl ?_
      refine X_iinc d_X_feed_127 rfl (v := (nI k) + 1) rfl (by decide) [1, 2, 3, 4, 5, 6, 7, 0] (L' := [(0, .ref (xg G 0)), (1, .int (nI N)), (2, .int a), (3, .int b), (4, .int c), (5, .int e), (6, .int v), (7, .int ((nI k) + 1))]) rfl ?_
      refine X_goto (tgt := 71) d_X_feed_130 (by decide) ?_
      have hlt := nI_more hk (by omega) c_1
      have hz : N - k = (N - (k + 1)) + 1 := by omega
      have hv : fdB (nI k) a b c e v = a := by simp [fdB, c_2]
      have key := ih hlt (iTake a I)
      unfold Q_X_feed at key
      rw [hz, iFd, hv, nI_1]
      exact key
theorem xin_10 {n : Int32} (h : xin n 1 5 = true) : xin n 0 5 = true := by
  rw [xin_iff] at h ⊢
  grind
theorem k_X_feed (l : Launch) (G : xG) {d : Nat} (nn : Nat) (hd : 3 ≤ d) (I : xI) (n a b c e v : Int32) : XM l G d y_X_feed b_X_feed 8 (some .int) 0 0 xK0 [.ref (xg G 0), .int n, .int a, .int b, .int c, .int e, .int v] nn (xm G xYf I) (some (.int (aFeed I n a b c e v))) nn (xm G xYf (mFeed I n a b c e v)) := by
  refine XM.of (by decide) (Nat.le_of_ble_eq_true rfl) (L := [(0, .ref (xg G 0)), (1, .int n), (2, .int a), (3, .int b), (4, .int c), (5, .int e), (6, .int v)]) rfl ?_
  refine X_iload_n d_X_feed_0 rfl rfl ?_
  refine X_iconst (v := 1) d_X_feed_1 rfl ?_
  refine X_iconst (v := 5) d_X_feed_2 rfl ?_
  refine X_callS (v := .int (xb (xin n 1 5))) (rest := []) (c_X_within l G nn _ (by omega) n 1 5) lk_X_within ml_X_105 rfl (Nat.le_of_ble_eq_true rfl) (xRok (d' := d - 1) (by omega) (by decide)) ⟨Nat.le_refl _, Nat.le_refl _⟩ d_X_feed_3 rfl ?_
  refine X_ifb_eq (tgt := 47) d_X_feed_6 (by decide) (fun c_1 => ?_) (fun c_1 => ?_)
  ·
    refine X_bipush (v := -2) d_X_feed_47 rfl ?_
    exact X_iret rfl (congrArg (fun q => some (Value.int q)) (by simp [aFeed, okFeed, c_1])) (xle_of (congrArg (xm G xYf) (by simp [mFeed, okFeed, c_1]))) d_X_feed_49
  ·
    refine X_iload_n d_X_feed_9 rfl rfl ?_
    refine X_callS (v := .int (xb (xin a 0 255))) (rest := []) (c_X_isByte l G nn _ (by omega) a) lk_X_isByte ml_X_109 rfl (Nat.le_of_ble_eq_true rfl) (xRok (d' := d - 1) (by omega) (by decide)) ⟨Nat.le_refl _, Nat.le_refl _⟩ d_X_feed_10 rfl ?_
    refine X_ifb_eq (tgt := 47) d_X_feed_13 (by decide) (fun c_2 => ?_) (fun c_2 => ?_)
    ·
      refine X_bipush (v := -2) d_X_feed_47 rfl ?_
      exact X_iret rfl (congrArg (fun q => some (Value.int q)) (by simp [aFeed, okFeed, c_1, c_2])) (xle_of (congrArg (xm G xYf) (by simp [mFeed, okFeed, c_1, c_2]))) d_X_feed_49
    ·
      refine X_iload_n d_X_feed_16 rfl rfl ?_
      refine X_callS (v := .int (xb (xin b 0 255))) (rest := []) (c_X_isByte l G nn _ (by omega) b) lk_X_isByte ml_X_109 rfl (Nat.le_of_ble_eq_true rfl) (xRok (d' := d - 1) (by omega) (by decide)) ⟨Nat.le_refl _, Nat.le_refl _⟩ d_X_feed_17 rfl ?_
      refine X_ifb_eq (tgt := 47) d_X_feed_20 (by decide) (fun c_3 => ?_) (fun c_3 => ?_)
      ·
        refine X_bipush (v := -2) d_X_feed_47 rfl ?_
        exact X_iret rfl (congrArg (fun q => some (Value.int q)) (by simp [aFeed, okFeed, c_1, c_2, c_3])) (xle_of (congrArg (xm G xYf) (by simp [mFeed, okFeed, c_1, c_2, c_3]))) d_X_feed_49
      ·
        refine X_iload d_X_feed_23 rfl ?_
        refine X_callS (v := .int (xb (xin c 0 255))) (rest := []) (c_X_isByte l G nn _ (by omega) c) lk_X_isByte ml_X_109 rfl (Nat.le_of_ble_eq_true rfl) (xRok (d' := d - 1) (by omega) (by decide)) ⟨Nat.le_refl _, Nat.le_refl _⟩ d_X_feed_25 rfl ?_
        refine X_ifb_eq (tgt := 47) d_X_feed_28 (by decide) (fun c_4 => ?_) (fun c_4 => ?_)
        ·
          refine X_bipush (v := -2) d_X_feed_47 rfl ?_
          exact X_iret rfl (congrArg (fun q => some (Value.int q)) (by simp [aFeed, okFeed, c_1, c_2, c_3, c_4])) (xle_of (congrArg (xm G xYf) (by simp [mFeed, okFeed, c_1, c_2, c_3, c_4]))) d_X_feed_49
        ·
          refine X_iload d_X_feed_31 rfl ?_
          refine X_callS (v := .int (xb (xin e 0 255))) (rest := []) (c_X_isByte l G nn _ (by omega) e) lk_X_isByte ml_X_109 rfl (Nat.le_of_ble_eq_true rfl) (xRok (d' := d - 1) (by omega) (by decide)) ⟨Nat.le_refl _, Nat.le_refl _⟩ d_X_feed_33 rfl ?_
          refine X_ifb_eq (tgt := 47) d_X_feed_36 (by decide) (fun c_5 => ?_) (fun c_5 => ?_)
          ·
            refine X_bipush (v := -2) d_X_feed_47 rfl ?_
            exact X_iret rfl (congrArg (fun q => some (Value.int q)) (by simp [aFeed, okFeed, c_1, c_2, c_3, c_4, c_5])) (xle_of (congrArg (xm G xYf) (by simp [mFeed, okFeed, c_1, c_2, c_3, c_4, c_5]))) d_X_feed_49
          ·
            refine X_iload d_X_feed_39 rfl ?_
            refine X_callS (v := .int (xb (xin v 0 255))) (rest := []) (c_X_isByte l G nn _ (by omega) v) lk_X_isByte ml_X_109 rfl (Nat.le_of_ble_eq_true rfl) (xRok (d' := d - 1) (by omega) (by decide)) ⟨Nat.le_refl _, Nat.le_refl _⟩ d_X_feed_41 rfl ?_
            refine X_ifb_ne (tgt := 50) d_X_feed_44 (by decide) (fun c_6 => ?_) (fun c_6 => ?_)
            ·
              refine X_aload_n d_X_feed_50 rfl rfl ?_
              refine X_getR (r := 11) fg_X_44 (y0 xYok_f) rfl d_X_feed_51 ?_
              refine X_getI (v := I 11 2) fg_X_102 (show xYf 11 = some (sReader 12 13) from rfl) rfl (rfl) d_X_feed_54 ?_
              refine X_iload_n d_X_feed_57 rfl rfl ?_
              refine X_iadd d_X_feed_58 ?_
              refine X_sipush (v := 160) d_X_feed_59 rfl ?_
              refine X_icmp_le (tgt := 68) d_X_feed_62 (by decide) (fun c_7 => ?_) (fun c_7 => ?_)
              ·
                refine X_iconst (v := 0) d_X_feed_68 rfl ?_
                refine X_istore d_X_feed_69 (by decide) [1, 2, 3, 4, 5, 6, 7, 0] (L' := [(0, .ref (xg G 0)), (1, .int n), (2, .int a), (3, .int b), (4, .int c), (5, .int e), (6, .int v), (7, .int 0)]) rfl ?_
                obtain ⟨N, hN, rfl⟩ := cTop (n := 5) (by decide) (xin_10 c_1)
                have hx := xloop (Q := fun k => ∀ I, Q_X_feed l G d nn N a b c e v k I) (T := N) (fun k hk ih I => w_X_feed l G nn (by omega) N hN a b c e v k hk ih I) 0 (Nat.zero_le _) I
                unfold Q_X_feed at hx
                have ok : okFeed (nI N) a b c e v = true := by simp [okFeed, c_1, c_2, c_3, c_4, c_5, c_6, c_7, Int32.not_lt.mpr c_7]
                have e1 : aFeed I (nI N) a b c e v = iFd a b c e v (N - 0) 0 I 11 2 := by rw [aFeed, if_pos ok, if_pos c_7, nI_cl (show N < 2 ^ 31 by omega)]; rfl
                have e2 : mFeed I (nI N) a b c e v = iFd a b c e v (N - 0) 0 I := by rw [mFeed, if_pos ok, if_pos c_7, nI_cl (show N < 2 ^ 31 by omega)]; rfl
                rw [e1, e2]
                exact hx
              ·
                refine X_bipush (v := -4) d_X_feed_65 rfl ?_
                exact X_iret rfl (congrArg (fun q => some (Value.int q)) (by simp [aFeed, okFeed, c_1, c_2, c_3, c_4, c_5, c_6, c_7, Int32.not_le.mp c_7])) (xle_of (congrArg (xm G xYf) (by simp [mFeed, okFeed, c_1, c_2, c_3, c_4, c_5, c_6, c_7, Int32.not_le.mp c_7]))) d_X_feed_67
            ·
              refine X_bipush (v := -2) d_X_feed_47 rfl ?_
              exact X_iret rfl (congrArg (fun q => some (Value.int q)) (by simp [aFeed, okFeed, c_1, c_2, c_3, c_4, c_5, c_6])) (xle_of (congrArg (xm G xYf) (by simp [mFeed, okFeed, c_1, c_2, c_3, c_4, c_5, c_6]))) d_X_feed_49
