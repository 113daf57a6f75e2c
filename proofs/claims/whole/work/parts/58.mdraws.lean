def loR (part : Int32) (a b : Nat) : Int64 := if a = 0 then part.toInt64 else lN ((if part = 0 then a else b) / Nat.gcd a b)
theorem lN_nz {k : Nat} (h0 : 0 < k) (hk : k < 2 ^ 31) : ¬ lN k = 0 := fun z => absurd ((lN_eq (a := k) (b := 0) hk (by decide)).mp z) (by omega)
theorem lN_z {k : Nat} (hk : k < 2 ^ 31) (h : lN k = 0) : k = 0 := (lN_eq (a := k) (b := 0) hk (by decide)).mp h
theorem gcd_st (x y : Nat) : Nat.gcd y (x % y) = Nat.gcd x y := by rw [Nat.gcd_comm x y, Nat.gcd_rec y x, Nat.gcd_comm]
def Q_Model_lowest (l : Launch) (G : xG) (d nn : Nat) (M : xM) (a b : Nat) (part : Int32) (x y : Nat) : Prop := XW l G (xR d 0 0) y_Model_lowest b_Model_lowest 11 (some .long) xK0 (xZ G nn M (some (.long (lN ((if part = 0 then a else b) / Nat.gcd x y)))) 0 0) nn M 0 0 16 [(0, .long (lN a)), (2, .long (lN b)), (4, .int part), (5, .long (lN x)), (7, .long (lN y))] []
theorem w_Model_lowest (l : Launch) (G : xG) {d : Nat} (nn : Nat) (M : xM) (a b : Nat) (part : Int32) (ha : a < 1000) (hb : b < 1000) : ∀ (N x y : Nat), y < N → x < 1000 → y < 1000 → 0 < Nat.gcd x y → Q_Model_lowest l G d nn M a b part x y := by
  intro N
  induction N with
  | zero => intro x y h; exact absurd h (Nat.not_lt_zero _)
  | succ N ih =>
    intro x y hN hx hy hg
    unfold Q_Model_lowest
    refine X_lload d_Model_lowest_16 rfl ?_
    refine X_lconst (v := 0) d_Model_lowest_18 rfl ?_
    refine X_lcmp d_Model_lowest_19 ?_
    refine X_if_eq (tgt := 41) d_Model_lowest_20 (by decide) (fun c_1 => ?_) (fun c_1 => ?_)
    ·
      have hy0 : y = 0 := lN_z (by omega) ((lg_cmp_eq _ _).mp c_1)
      subst hy0
      rw [Nat.gcd_zero_right] at hg ⊢
      refine X_iload d_Model_lowest_41 rfl ?_
      refine X_if_ne (tgt := 50) d_Model_lowest_43 (by decide) (fun c_2 => ?_) (fun c_2 => ?_)
      ·
        refine X_lload_n d_Model_lowest_50 rfl rfl ?_
        refine X_lload d_Model_lowest_51 rfl ?_
        refine X_ldiv d_Model_lowest_53 (lN_nz (by omega) (by omega)) ?_
        exact X_lret rfl (congrArg (fun q => some (Value.long q)) (by rw [if_neg c_2]; exact Eq.symm (pk_lDiv (a := b) (b := x) (by omega) (by omega) (by omega)))) (xle_rf _) d_Model_lowest_54
      ·
        refine X_lload_n d_Model_lowest_46 rfl rfl ?_
        refine X_goto (tgt := 51) d_Model_lowest_47 (by decide) ?_
        refine X_lload d_Model_lowest_51 rfl ?_
        refine X_ldiv d_Model_lowest_53 (lN_nz (by omega) (by omega)) ?_
        exact X_lret rfl (congrArg (fun q => some (Value.long q)) (by rw [if_pos c_2]; exact Eq.symm (pk_lDiv (a := a) (b := x) (by omega) (by omega) (by omega)))) (xle_rf _) d_Model_lowest_54
    ·
      refine X_lload d_Model_lowest_23 rfl ?_
      refine X_lload d_Model_lowest_25 rfl ?_
      refine X_lrem d_Model_lowest_27 (fun z => c_1 ((lg_cmp_eq _ _).mpr z)) ?_
      refine X_lstore d_Model_lowest_28 (by decide) [1, 2, 3, 4, 5, 0] (L' := [(0, .long (lN a)), (2, .long (lN b)), (4, .int part), (5, .long (lN x)), (7, .long (lN y)), (9, .long ((lN x) - (lN x) / (lN y) * (lN y)))]) rfl ?_
      refine X_lload d_Model_lowest_30 rfl ?_
      refine X_lstore d_Model_lowest_32 (by decide) [1, 2, 3, 0, 4, 5] (L' := [(0, .long (lN a)), (2, .long (lN b)), (4, .int part), (5, .long (lN y)), (7, .long (lN y)), (9, .long ((lN x) - (lN x) / (lN y) * (lN y)))]) rfl ?_
      refine X_lload d_Model_lowest_34 rfl ?_
      refine X_lstore d_Model_lowest_36 (by decide) [1, 2, 3, 4, 0, 5] (L' := [(0, .long (lN a)), (2, .long (lN b)), (4, .int part), (5, .long (lN y)), (7, .long ((lN x) - (lN x) / (lN y) * (lN y))), (9, .long ((lN x) - (lN x) / (lN y) * (lN y)))]) rfl ?_
      refine X_goto (tgt := 16) d_Model_lowest_38 (by decide) ?_
      have hyp : 0 < y := Nat.pos_of_ne_zero (fun z => c_1 ((lg_cmp_eq _ _).mpr (by rw [z]; rfl)))
      rw [pk_lRem (a := x) (b := y) (by omega) hyp (by omega)]
      have hlt := Nat.mod_lt x hyp
      have key := ih y (x % y) (by omega) hy (by omega) (by rw [gcd_st]; exact hg)
      unfold Q_Model_lowest at key
      rw [gcd_st] at key
      refine X_sub [0, 1, 2, 3, 4] (L' := [(0, .long (lN a)), (2, .long (lN b)), (4, .int part), (5, .long (lN y)), (7, .long (lN (x % y)))]) rfl ?_
      exact key
theorem c_Model_lowest (l : Launch) (G : xG) {d : Nat} (nn : Nat) (M : xM) (a b : Nat) (part : Int32) (ha : a < 1000) (hb : b < 1000) (hb0 : 0 < b) : XM l G d y_Model_lowest b_Model_lowest 11 (some .long) 0 0 xK0 [.long (lN a), .long (lN b), .int part] nn M (some (.long (loR part a b))) nn M := by
  refine XM.of (by decide) (Nat.le_of_ble_eq_true rfl) (L := [(0, .long (lN a)), (2, .long (lN b)), (4, .int part)]) rfl ?_
  refine X_lload_n d_Model_lowest_0 rfl rfl ?_
  refine X_lconst (v := 0) d_Model_lowest_1 rfl ?_
  refine X_lcmp d_Model_lowest_2 ?_
  refine X_if_ne (tgt := 10) d_Model_lowest_3 (by decide) (fun c_1 => ?_) (fun c_1 => ?_)
  ·
    refine X_lload_n d_Model_lowest_10 rfl rfl ?_
    refine X_lstore d_Model_lowest_11 (by decide) [1, 2, 3, 0] (L' := [(0, .long (lN a)), (2, .long (lN b)), (4, .int part), (5, .long (lN a))]) rfl ?_
    refine X_lload_n d_Model_lowest_13 rfl rfl ?_
    refine X_lstore d_Model_lowest_14 (by decide) [1, 2, 3, 4, 0] (L' := [(0, .long (lN a)), (2, .long (lN b)), (4, .int part), (5, .long (lN a)), (7, .long (lN b))]) rfl ?_
    have ha0 : ¬ a = 0 := fun z => c_1 ((lg_cmp_eq _ _).mpr (by rw [z]; rfl))
    have hx := w_Model_lowest (d := d) l G nn M a b part ha hb (b + 1) a b (by omega) ha hb (Nat.gcd_pos_of_pos_right _ hb0)
    unfold Q_Model_lowest at hx
    rw [loR, if_neg ha0]
    exact hx
  ·
    refine X_iload d_Model_lowest_6 rfl ?_
    refine X_i2l d_Model_lowest_8 ?_
    exact X_lret rfl (congrArg (fun q => some (Value.long q)) (by rw [loR, if_pos (lN_z (by omega) ((lg_cmp_eq _ _).mp c_1))])) (xle_rf _) d_Model_lowest_9
theorem xsd_n {s : Nat} (h : s < 1000000) : (nI s).toInt64 + 1 = (nI s + 1).toInt64 := by rw [nI_1, nI_l (by omega), nI_l (by omega), lN_1]
theorem xsd_k {seed : Int32} (h : xin seed 0 99999 = true) {k : Nat} (hk : k < 1000) : (seed + nI k).toInt64 + 1 = (seed + nI k + 1).toInt64 := by
  rw [xin_iff] at h
  obtain ⟨s, hs, rfl⟩ := nI_of (x := seed) (Int32.not_lt.mpr h.1)
  have h2 : s ≤ 99999 := (nI_leI hs (by decide)).mp h.2
  rw [nI_add]
  exact xsd_n (by omega)
theorem xsd {seed : Int32} (h : xin seed 0 99999 = true) : seed.toInt64 + 1 = (seed + 1).toInt64 := by
  have := xsd_k h (k := 0) (by decide)
  rw [show nI 0 = 0 from rfl, Int32.add_zero] at this
  exact this
theorem sDraw_7 (L : xSay) (op : Int32) : ∀ (k : Nat) (lot : Int64) {f : Nat → Int32}, (f 7 = 0 ∨ f 7 = 1) → sDraw L op k lot f 7 = 0 ∨ sDraw L op k lot f 7 = 1
  | 0, _, _, h => h
  | k + 1, lot, _, h => sDraw_7 L op k _ (hStep_7 _ _ _ _ h)
theorem c_Model_drawn (l : Launch) (G : xG) {d : Nat} (nn : Nat) (hd : 9 ≤ d) (I : xI) (hc tc ln : Nat) (SS : Nat → xSay) (hK0 : mOK I hc tc ln SS) (seed h sec op what : Int32) : XM l G d y_Model_drawn b_Model_drawn 6 (some .int) 0 0 xK0 [.ref (xg G 59), .int seed, .int h, .int sec, .int op, .int what] nn (xm G xYf I) (some (.int (aDrawn hc (SS ln) (mRow I) seed h sec op what))) nn (xm G xYf (if xin h 0 (nI hc - 1) = true ∧ xin seed 0 99999 = true ∧ xin sec 0 60 = true ∧ xop op = true ∧ xin what 0 2 = true then xup I 59 (sc (I 59) (sDraw (SS ln) op sec.toNatClampNeg (seed + 1).toInt64 (hStd (mRow I h.toNatClampNeg))) (mDrE (SS ln) op sec.toNatClampNeg 0 (seed + 1).toInt64 (hStd (mRow I h.toNatClampNeg)) (-1))) else I)) := by
  obtain ⟨⟨h0, h5⟩, ⟨h8, h6⟩, ⟨h9, hl⟩, hTs, hR⟩ := id hK0
  have hK : mK I ln (SS ln) := ⟨hTs ln hl, h9, by omega⟩
  generalize hSS : SS ln = S at hK ⊢
  refine XM.of (by decide) (Nat.le_of_ble_eq_true rfl) (L := [(0, .ref (xg G 59)), (1, .int seed), (2, .int h), (3, .int sec), (4, .int op), (5, .int what)]) rfl ?_
  refine X_aload_n d_Model_drawn_0 rfl rfl ?_
  refine X_iload_n d_Model_drawn_1 rfl rfl ?_
  refine X_callV (v := .int (xb (xin h 0 (nI hc - 1)))) (rest := []) (c_Model_isHead l G nn (by omega) I hc tc ln SS hK0 h) lk_Model_isHead ml_Model_149 (xm_obj (show xYf 59 = some sModel from rfl)) rfl rfl (Nat.le_of_ble_eq_true rfl) (xRok (d' := d - 1) (by omega) (by decide)) ⟨Nat.le_refl _, Nat.le_refl _⟩ d_Model_drawn_2 rfl ?_
  refine X_ifb_ne (tgt := 11) d_Model_drawn_5 (by decide) (fun c_1 => ?_) (fun c_1 => ?_)
  ·
    obtain ⟨i, hi, rfl⟩ := cHead h5 c_1
    refine X_iload_n d_Model_drawn_11 rfl rfl ?_
    refine X_iconst (v := 0) d_Model_drawn_12 rfl ?_
    refine X_ldc cs_Model_185 d_Model_drawn_13 ?_
    refine X_callS (v := .int (xb (xin seed 0 99999))) (rest := []) (c_Model_in l G nn _ (by omega) seed 0 99999) lk_Model_in ml_Model_66 rfl (Nat.le_of_ble_eq_true rfl) (xRok (d' := d - 1) (by omega) (by decide)) ⟨Nat.le_refl _, Nat.le_refl _⟩ d_Model_drawn_15 rfl ?_
    refine X_ifb_eq (tgt := 49) d_Model_drawn_18 (by decide) (fun c_2 => ?_) (fun c_2 => ?_)
    ·
      refine X_ldc cs_Model_157 d_Model_drawn_49 ?_
      exact X_iret rfl (congrArg (fun q => some (Value.int q)) (by subst hSS; first | (simp [aDrawn, c_1, nI_cl (show i < 2 ^ 31 by omega), c_2, xl_1_0, xl_1_1, xl_2_0, xl_2_1, xl_2_2, xl_3_0, xl_3_1, xl_3_2, xl_3_3]; done) | (exfalso; simp_all; done) | (clear hTs hR hK0 hK; simp_all [aDrawn, nI_cl (show i < 2 ^ 31 by omega)]; done))) (xle_of (congrArg (xm G xYf) (by first | (subst hSS; simp [c_1, nI_cl (show i < 2 ^ 31 by omega), c_2, xl_3_0, xl_3_1, xl_3_2, xl_3_3, xl_2_0, xl_2_1, xl_2_2, xl_1_0, xl_1_1]; done) | (exfalso; simp_all; done)))) d_Model_drawn_51
    ·
      refine X_iload_n d_Model_drawn_21 rfl rfl ?_
      refine X_iconst (v := 0) d_Model_drawn_22 rfl ?_
      refine X_bipush (v := 60) d_Model_drawn_23 rfl ?_
      refine X_callS (v := .int (xb (xin sec 0 60))) (rest := []) (c_Model_in l G nn _ (by omega) sec 0 60) lk_Model_in ml_Model_66 rfl (Nat.le_of_ble_eq_true rfl) (xRok (d' := d - 1) (by omega) (by decide)) ⟨Nat.le_refl _, Nat.le_refl _⟩ d_Model_drawn_25 rfl ?_
      refine X_ifb_eq (tgt := 49) d_Model_drawn_28 (by decide) (fun c_3 => ?_) (fun c_3 => ?_)
      ·
        refine X_ldc cs_Model_157 d_Model_drawn_49 ?_
        exact X_iret rfl (congrArg (fun q => some (Value.int q)) (by subst hSS; first | (simp [aDrawn, c_1, nI_cl (show i < 2 ^ 31 by omega), c_2, c_3, xl_1_0, xl_1_1, xl_2_0, xl_2_1, xl_2_2, xl_3_0, xl_3_1, xl_3_2, xl_3_3]; done) | (exfalso; simp_all; done) | (clear hTs hR hK0 hK; simp_all [aDrawn, nI_cl (show i < 2 ^ 31 by omega)]; done))) (xle_of (congrArg (xm G xYf) (by first | (subst hSS; simp [c_1, nI_cl (show i < 2 ^ 31 by omega), c_2, c_3, xl_3_0, xl_3_1, xl_3_2, xl_3_3, xl_2_0, xl_2_1, xl_2_2, xl_1_0, xl_1_1]; done) | (exfalso; simp_all; done)))) d_Model_drawn_51
      ·
        refine X_iload d_Model_drawn_31 rfl ?_
        refine X_callS (v := .int (xb (xop op))) (rest := []) (k_Model_areOdds l G nn _ (by omega) op) lk_Model_areOdds ml_Model_249 rfl (Nat.le_of_ble_eq_true rfl) (xRok (d' := d - 1) (by omega) (by decide)) ⟨Nat.le_refl _, Nat.le_refl _⟩ d_Model_drawn_33 rfl ?_
        refine X_ifb_eq (tgt := 49) d_Model_drawn_36 (by decide) (fun c_4 => ?_) (fun c_4 => ?_)
        ·
          refine X_ldc cs_Model_157 d_Model_drawn_49 ?_
          exact X_iret rfl (congrArg (fun q => some (Value.int q)) (by subst hSS; first | (simp [aDrawn, c_1, nI_cl (show i < 2 ^ 31 by omega), c_2, c_3, c_4, xl_1_0, xl_1_1, xl_2_0, xl_2_1, xl_2_2, xl_3_0, xl_3_1, xl_3_2, xl_3_3]; done) | (exfalso; simp_all; done) | (clear hTs hR hK0 hK; simp_all [aDrawn, nI_cl (show i < 2 ^ 31 by omega)]; done))) (xle_of (congrArg (xm G xYf) (by first | (subst hSS; simp [c_1, nI_cl (show i < 2 ^ 31 by omega), c_2, c_3, c_4, xl_3_0, xl_3_1, xl_3_2, xl_3_3, xl_2_0, xl_2_1, xl_2_2, xl_1_0, xl_1_1]; done) | (exfalso; simp_all; done)))) d_Model_drawn_51
        ·
          refine X_iload d_Model_drawn_39 rfl ?_
          refine X_iconst (v := 0) d_Model_drawn_41 rfl ?_
          refine X_iconst (v := 2) d_Model_drawn_42 rfl ?_
          refine X_callS (v := .int (xb (xin what 0 2))) (rest := []) (c_Model_in l G nn _ (by omega) what 0 2) lk_Model_in ml_Model_66 rfl (Nat.le_of_ble_eq_true rfl) (xRok (d' := d - 1) (by omega) (by decide)) ⟨Nat.le_refl _, Nat.le_refl _⟩ d_Model_drawn_43 rfl ?_
          refine X_ifb_ne (tgt := 52) d_Model_drawn_46 (by decide) (fun c_5 => ?_) (fun c_5 => ?_)
          ·
            refine X_aload_n d_Model_drawn_52 rfl rfl ?_
            refine X_iload_n d_Model_drawn_53 rfl rfl ?_
            refine X_iload_n d_Model_drawn_54 rfl rfl ?_
            refine X_iload_n d_Model_drawn_55 rfl rfl ?_
            refine X_iload d_Model_drawn_56 rfl ?_
            refine X_callVv (rest := []) (by have q := c_Model_walkBy l G nn (d := d - 1) (by omega) I i (by omega) (mCur I) (I 59 33) ln S hK seed sec op (xin_60 c_3).1 (xin_60 c_3).2; rw [xsd c_2] at q; rw [sc_self] at q; exact q) lk_Model_walkBy ml_Model_252 (xm_obj (show xYf 59 = some sModel from rfl)) rfl rfl (Nat.le_of_ble_eq_true rfl) (xRok (d' := d - 1) (by omega) (by decide)) ⟨Nat.le_refl _, Nat.le_refl _⟩ d_Model_drawn_58 rfl ?_
            refine X_iload d_Model_drawn_61 rfl ?_
            refine X_if_ne (tgt := 73) d_Model_drawn_63 (by decide) (fun c_6 => ?_) (fun c_6 => ?_)
            ·
              refine X_iload d_Model_drawn_73 rfl ?_
              refine X_iconst (v := 1) d_Model_drawn_75 rfl ?_
              refine X_icmp_ne (tgt := 86) d_Model_drawn_76 (by decide) (fun c_7 => ?_) (fun c_7 => ?_)
              ·
                refine X_aload_n d_Model_drawn_86 rfl rfl ?_
                refine X_getI (v := (sDraw S op sec.toNatClampNeg (seed + 1).toInt64 (hStd (mRow I i))) 7) fg_Model_174 (show xYf 59 = some sModel from rfl) rfl ((congrFun (xup_s _ _ _) _).trans (sc_32 _ _ _)) d_Model_drawn_87 ?_
                refine X_if_eq (tgt := 97) d_Model_drawn_90 (by decide) (fun c_8 => ?_) (fun c_8 => ?_)
                ·
                  refine X_iconst (v := 0) d_Model_drawn_97 rfl ?_
                  exact X_iret rfl (congrArg (fun q => some (Value.int q)) (by subst hSS; first | (simp [aDrawn, c_1, nI_cl (show i < 2 ^ 31 by omega), c_2, c_3, c_4, c_5, c_6, c_7, c_8, xl_1_0, xl_1_1, xl_2_0, xl_2_1, xl_2_2, xl_3_0, xl_3_1, xl_3_2, xl_3_3]; done) | (exfalso; simp_all; done) | (clear hTs hR hK0 hK; simp_all [aDrawn, nI_cl (show i < 2 ^ 31 by omega)]; done))) (xle_of (congrArg (xm G xYf) (by first | (subst hSS; simp [c_1, nI_cl (show i < 2 ^ 31 by omega), c_2, c_3, c_4, c_5, c_6, c_7, c_8, xl_3_0, xl_3_1, xl_3_2, xl_3_3, xl_2_0, xl_2_1, xl_2_2, xl_1_0, xl_1_1]; done) | (exfalso; simp_all; done)))) d_Model_drawn_98
                ·
                  have h71 : (sDraw S op sec.toNatClampNeg (seed + 1).toInt64 (hStd (mRow I i))) 7 = 1 := (sDraw_7 _ _ _ _ (Or.inl rfl)).resolve_left c_8
                  refine X_iconst (v := 1) d_Model_drawn_93 rfl ?_
                  refine X_goto (tgt := 98) d_Model_drawn_94 (by decide) ?_
                  exact X_iret rfl (congrArg (fun q => some (Value.int q)) (by subst hSS; first | (simp [aDrawn, c_1, nI_cl (show i < 2 ^ 31 by omega), c_2, c_3, c_4, c_5, c_6, c_7, c_8, h71, xl_1_0, xl_1_1, xl_2_0, xl_2_1, xl_2_2, xl_3_0, xl_3_1, xl_3_2, xl_3_3]; done) | (exfalso; simp_all; done) | (clear hTs hR hK0 hK; simp_all [aDrawn, nI_cl (show i < 2 ^ 31 by omega)]; done))) (xle_of (congrArg (xm G xYf) (by first | (subst hSS; simp [c_1, nI_cl (show i < 2 ^ 31 by omega), c_2, c_3, c_4, c_5, c_6, c_7, c_8, h71, xl_3_0, xl_3_1, xl_3_2, xl_3_3, xl_2_0, xl_2_1, xl_2_2, xl_1_0, xl_1_1]; done) | (exfalso; simp_all; done)))) d_Model_drawn_98
              ·
                refine X_aload_n d_Model_drawn_79 rfl rfl ?_
                refine X_getI (v := (sDraw S op sec.toNatClampNeg (seed + 1).toInt64 (hStd (mRow I i))) 5) fg_Model_181 (show xYf 59 = some sModel from rfl) rfl ((congrFun (xup_s _ _ _) _).trans (sc_30 _ _ _)) d_Model_drawn_80 ?_
                refine X_goto (tgt := 98) d_Model_drawn_83 (by decide) ?_
                exact X_iret rfl (congrArg (fun q => some (Value.int q)) (by subst hSS; first | (simp [aDrawn, c_1, nI_cl (show i < 2 ^ 31 by omega), c_2, c_3, c_4, c_5, c_6, c_7, xl_1_0, xl_1_1, xl_2_0, xl_2_1, xl_2_2, xl_3_0, xl_3_1, xl_3_2, xl_3_3]; done) | (exfalso; simp_all; done) | (clear hTs hR hK0 hK; simp_all [aDrawn, nI_cl (show i < 2 ^ 31 by omega)]; done))) (xle_of (congrArg (xm G xYf) (by first | (subst hSS; simp [c_1, nI_cl (show i < 2 ^ 31 by omega), c_2, c_3, c_4, c_5, c_6, c_7, xl_3_0, xl_3_1, xl_3_2, xl_3_3, xl_2_0, xl_2_1, xl_2_2, xl_1_0, xl_1_1]; done) | (exfalso; simp_all; done)))) d_Model_drawn_98
            ·
              refine X_aload_n d_Model_drawn_66 rfl rfl ?_
              refine X_getI (v := (sDraw S op sec.toNatClampNeg (seed + 1).toInt64 (hStd (mRow I i))) 6) fg_Model_186 (show xYf 59 = some sModel from rfl) rfl ((congrFun (xup_s _ _ _) _).trans (sc_31 _ _ _)) d_Model_drawn_67 ?_
              refine X_goto (tgt := 98) d_Model_drawn_70 (by decide) ?_
              exact X_iret rfl (congrArg (fun q => some (Value.int q)) (by subst hSS; first | (simp [aDrawn, c_1, nI_cl (show i < 2 ^ 31 by omega), c_2, c_3, c_4, c_5, c_6, xl_1_0, xl_1_1, xl_2_0, xl_2_1, xl_2_2, xl_3_0, xl_3_1, xl_3_2, xl_3_3]; done) | (exfalso; simp_all; done) | (clear hTs hR hK0 hK; simp_all [aDrawn, nI_cl (show i < 2 ^ 31 by omega)]; done))) (xle_of (congrArg (xm G xYf) (by first | (subst hSS; simp [c_1, nI_cl (show i < 2 ^ 31 by omega), c_2, c_3, c_4, c_5, c_6, xl_3_0, xl_3_1, xl_3_2, xl_3_3, xl_2_0, xl_2_1, xl_2_2, xl_1_0, xl_1_1]; done) | (exfalso; simp_all; done)))) d_Model_drawn_98
          ·
            refine X_ldc cs_Model_157 d_Model_drawn_49 ?_
            exact X_iret rfl (congrArg (fun q => some (Value.int q)) (by subst hSS; first | (simp [aDrawn, c_1, nI_cl (show i < 2 ^ 31 by omega), c_2, c_3, c_4, c_5, xl_1_0, xl_1_1, xl_2_0, xl_2_1, xl_2_2, xl_3_0, xl_3_1, xl_3_2, xl_3_3]; done) | (exfalso; simp_all; done) | (clear hTs hR hK0 hK; simp_all [aDrawn, nI_cl (show i < 2 ^ 31 by omega)]; done))) (xle_of (congrArg (xm G xYf) (by first | (subst hSS; simp [c_1, nI_cl (show i < 2 ^ 31 by omega), c_2, c_3, c_4, c_5, xl_3_0, xl_3_1, xl_3_2, xl_3_3, xl_2_0, xl_2_1, xl_2_2, xl_1_0, xl_1_1]; done) | (exfalso; simp_all; done)))) d_Model_drawn_51
  ·
    refine X_ldc cs_Model_156 d_Model_drawn_8 ?_
    exact X_iret rfl (congrArg (fun q => some (Value.int q)) (by subst hSS; first | (simp [aDrawn, c_1, xl_1_0, xl_1_1, xl_2_0, xl_2_1, xl_2_2, xl_3_0, xl_3_1, xl_3_2, xl_3_3]; done) | (exfalso; simp_all; done) | (clear hTs hR hK0 hK; simp_all [aDrawn]; done))) (xle_of (congrArg (xm G xYf) (by first | (subst hSS; simp [c_1, xl_3_0, xl_3_1, xl_3_2, xl_3_3, xl_2_0, xl_2_1, xl_2_2, xl_1_0, xl_1_1]; done) | (exfalso; simp_all; done)))) d_Model_drawn_10
def ocS (V : Nat → Int32) (wide : Int32) : Nat → Nat → Nat → Nat
  | 0, _, m => m
  | r + 1, k, m => ocS V wide r (k + 1) (if xabs (V k) ≤ wide then m + 1 else m)
theorem xss_w2 {v : Int32} (h : xin v 0 6040 = true) : ¬ v / 100 < 0 ∧ v / 100 ≤ 100 := by
  rw [xin_iff] at h
  obtain ⟨s, hs, rfl⟩ := nI_of (x := v) (Int32.not_lt.mpr h.1)
  have h2 : s ≤ 6040 := (nI_leI hs (by decide)).mp h.2
  have e1 : nI s / 100 = nI (s / 100) := q_div hs 100 (by decide) (by decide)
  rw [e1]
  exact ⟨nI_pos (by omega), (nI_leI (b := 100) (by omega) (by decide)).mpr (by omega)⟩
theorem xss_T {v : Int32} (h : xin (v - v / 100 * 100) 1 40 = true) : ∃ T, T ≤ 40 ∧ 0 < T ∧ v - v / 100 * 100 = nI T := by
  rw [xin_iff] at h
  obtain ⟨T, hT, e⟩ := nI_of (x := v - v / 100 * 100) (Int32.not_lt.mpr (by have := h.1; grind))
  rw [e] at h
  exact ⟨T, (nI_leI hT (by decide)).mp h.2, (nI_leI (a := 1) (by decide) hT).mp h.1, e⟩
def Q_Model_odds (l : Launch) (G : xG) (d nn : Nat) (I : xI) (i : Nat) (S : xSay) (seed ss op wide part : Int32) (N k m : Nat) (f : Nat → Int32) (e : Int32) : Prop := XW l G (xR d 0 0) y_Model_odds b_Model_odds 11 (some .long) xK0 (xZ G nn (xm G xYf (xup I 59 (sc (I 59) (wnF (fun k _ => sDraw S op (ss / 100).toNatClampNeg (seed + nI k + 1).toInt64 (hStd (mRow I i))) (N - k) k f) (wnE (fun k _ => mDrE S op (ss / 100).toNatClampNeg 0 (seed + nI k + 1).toInt64 (hStd (mRow I i)) (-1)) (N - k) k e)))) (some (.long (loR part (ocS (fun k => sDraw S op (ss / 100).toNatClampNeg (seed + nI k + 1).toInt64 (hStd (mRow I i)) 6) wide (N - k) k m) N))) 0 0) nn (xm G xYf (xup I 59 (sc (I 59) f e))) 0 0 93 [(0, .ref (xg G 59)), (1, .int seed), (2, .int ss), (3, .int (nI i)), (4, .int op), (5, .int wide), (6, .int part), (8, .long (lN m)), (10, .int (nI k))] []
theorem w_Model_odds (l : Launch) (G : xG) {d : Nat} (nn : Nat) (hd : 9 ≤ d) (I : xI) (ln i : Nat) (S : xSay) (hK : mK I ln S) (hi : i < 5) (seed ss op wide part : Int32) (hsd : xin seed 0 99999 = true) (hss : ¬ ss / 100 < 0 ∧ ss / 100 ≤ 100) (N : Nat) (hN : N ≤ 40) (hN0 : 0 < N) (hTe : ss - ss / 100 * 100 = nI N) (k : Nat) (hk : k ≤ N) (ih : k < N → ∀ m f e, m ≤ k + 1 → Q_Model_odds l G d nn I i S seed ss op wide part N (k + 1) m f e) (m : Nat) (f : Nat → Int32) (e : Int32) (hm : m ≤ k) : Q_Model_odds l G d nn I i S seed ss op wide part N k m f e := by
  unfold Q_Model_odds
  refine X_iload d_Model_odds_93 rfl ?_
  refine X_iload_n d_Model_odds_95 rfl rfl ?_
  refine X_bipush (v := 100) d_Model_odds_96 rfl ?_
  refine X_irem d_Model_odds_98 (by decide) ?_
  rw [hTe]
  refine X_icmp_ge (tgt := 145) d_Model_odds_99 (by decide) (fun c_1 => ?_) (fun c_1 => ?_)
  ·
    have hz : N - k = 0 := by have := nI_done hk (by omega) c_1; omega
    rw [hz]
    refine X_lload d_Model_odds_145 rfl ?_
    refine X_iload_n d_Model_odds_147 rfl rfl ?_
    refine X_bipush (v := 100) d_Model_odds_148 rfl ?_
    refine X_irem d_Model_odds_150 (by decide) ?_
    rw [hTe]
    refine X_i2l d_Model_odds_151 ?_
    refine X_iload d_Model_odds_152 rfl ?_
    refine X_callS (v := .long (loR part m N)) (rest := []) (by have q := c_Model_lowest l G (d := d - 1) nn (xm G xYf (xup I 59 (sc (I 59) f e))) m N part (by omega) (by omega) hN0; rw [← nI_l (n := N) (by omega)] at q; exact q) lk_Model_lowest ml_Model_257 rfl (Nat.le_of_ble_eq_true rfl) (xRok (d' := d - 1) (by omega) (by decide)) ⟨Nat.le_refl _, Nat.le_refl _⟩ d_Model_odds_154 rfl ?_
    exact X_lret rfl rfl (xle_rf _) d_Model_odds_157
  ·
    have hlt : k < N := nI_more hk (by omega) c_1
    have hz : N - k = (N - (k + 1)) + 1 := by omega
    refine X_aload_n d_Model_odds_102 rfl rfl ?_
    refine X_iload_n d_Model_odds_103 rfl rfl ?_
    refine X_iload d_Model_odds_104 rfl ?_
    refine X_iadd d_Model_odds_106 ?_
    refine X_iload_n d_Model_odds_107 rfl rfl ?_
    refine X_iload_n d_Model_odds_108 rfl rfl ?_
    refine X_bipush (v := 100) d_Model_odds_109 rfl ?_
    refine X_idiv d_Model_odds_111 (by decide) ?_
    refine X_iload d_Model_odds_112 rfl ?_
    refine X_callVv (rest := []) (by have q := c_Model_walkBy l G nn (d := d - 1) (by omega) I i (by omega) f e ln S hK (seed + (nI k)) (ss / 100) op hss.1 hss.2; rw [xsd_k hsd (show k < 1000 by omega)] at q; exact q) lk_Model_walkBy ml_Model_252 (xm_obj (show xYf 59 = some sModel from rfl)) rfl rfl (Nat.le_of_ble_eq_true rfl) (xRok (d' := d - 1) (by omega) (by decide)) ⟨Nat.le_refl _, Nat.le_refl _⟩ d_Model_odds_114 rfl ?_
    refine X_lload d_Model_odds_117 rfl ?_
    refine X_aload_n d_Model_odds_119 rfl rfl ?_
    refine X_getI (v := (sDraw S op (ss / 100).toNatClampNeg ((seed + (nI k)) + 1).toInt64 (hStd (mRow I i))) 6) fg_Model_186 (show xYf 59 = some sModel from rfl) rfl ((congrFun (xup_s _ _ _) _).trans (sc_31 _ _ _)) d_Model_odds_120 ?_
    refine X_callS (v := .int (xabs ((sDraw S op (ss / 100).toNatClampNeg ((seed + (nI k)) + 1).toInt64 (hStd (mRow I i))) 6))) (rest := [.long (lN m)]) (c_Model_size0 l G nn _ (by omega) ((sDraw S op (ss / 100).toNatClampNeg ((seed + (nI k)) + 1).toInt64 (hStd (mRow I i))) 6)) lk_Model_size0 ml_Model_164 rfl (Nat.le_of_ble_eq_true rfl) (xRok (d' := d - 1) (by omega) (by decide)) ⟨Nat.le_refl _, Nat.le_refl _⟩ d_Model_odds_123 rfl ?_
    refine X_iload d_Model_odds_126 rfl ?_
    refine X_icmp_gt (tgt := 135) d_Model_odds_128 (by decide) (fun c_2 => ?_) (fun c_2 => ?_)
    ·
      refine X_lconst (v := 0) d_Model_odds_135 rfl ?_
      refine X_ladd d_Model_odds_136 ?_
      refine X_lstore d_Model_odds_137 (by decide) [1, 2, 3, 4, 5, 6, 7, 0, 8] (L' := [(0, .ref (xg G 59)), (1, .int seed), (2, .int ss), (3, .int (nI i)), (4, .int op), (5, .int wide), (6, .int part), (8, .long ((lN m) + 0)), (10, .int (nI k))]) rfl ?_
      refine X_iinc d_Model_odds_139 rfl (v := (nI k) + 1) rfl (by decide) [1, 2, 3, 4, 5, 6, 7, 8, 0] (L' := [(0, .ref (xg G 59)), (1, .int seed), (2, .int ss), (3, .int (nI i)), (4, .int op), (5, .int wide), (6, .int part), (8, .long ((lN m) + 0)), (10, .int ((nI k) + 1))]) rfl ?_
      refine X_goto (tgt := 93) d_Model_odds_142 (by decide) ?_
      rw [show lN m + 0 = lN m from Int64.add_zero _]
      have key := ih hlt m (sDraw S op (ss / 100).toNatClampNeg ((seed + (nI k)) + 1).toInt64 (hStd (mRow I i))) (mDrE S op (ss / 100).toNatClampNeg 0 ((seed + (nI k)) + 1).toInt64 (hStd (mRow I i)) (-1)) (by omega)
      unfold Q_Model_odds at key
      rw [hz, wnF, wnE, ocS, if_neg (Int32.not_le.mpr c_2), nI_1]
      exact key
    ·
      refine X_lconst (v := 1) d_Model_odds_131 rfl ?_
      refine X_goto (tgt := 136) d_Model_odds_132 (by decide) ?_
      refine X_ladd d_Model_odds_136 ?_
      refine X_lstore d_Model_odds_137 (by decide) [1, 2, 3, 4, 5, 6, 7, 0, 8] (L' := [(0, .ref (xg G 59)), (1, .int seed), (2, .int ss), (3, .int (nI i)), (4, .int op), (5, .int wide), (6, .int part), (8, .long ((lN m) + 1)), (10, .int (nI k))]) rfl ?_
      refine X_iinc d_Model_odds_139 rfl (v := (nI k) + 1) rfl (by decide) [1, 2, 3, 4, 5, 6, 7, 8, 0] (L' := [(0, .ref (xg G 59)), (1, .int seed), (2, .int ss), (3, .int (nI i)), (4, .int op), (5, .int wide), (6, .int part), (8, .long ((lN m) + 1)), (10, .int ((nI k) + 1))]) rfl ?_
      refine X_goto (tgt := 93) d_Model_odds_142 (by decide) ?_
      rw [lN_1]
      have key := ih hlt (m + 1) (sDraw S op (ss / 100).toNatClampNeg ((seed + (nI k)) + 1).toInt64 (hStd (mRow I i))) (mDrE S op (ss / 100).toNatClampNeg 0 ((seed + (nI k)) + 1).toInt64 (hStd (mRow I i)) (-1)) (by omega)
      unfold Q_Model_odds at key
      rw [hz, wnF, wnE, ocS, if_pos (Int32.not_lt.mp c_2), nI_1]
      exact key
def aOddsM (hc : Nat) (L : xSay) (R : Nat → Nat → Int32) (seed ss h op wide part : Int32) : Int64 := if xin seed 0 99999 = true ∧ xin ss 0 6040 = true ∧ xin (ss - ss / 100 * 100) 1 40 = true ∧ xin h 0 (nI hc - 1) = true ∧ xop op = true ∧ xin wide 0 99999 = true ∧ xin part 0 1 = true then loR part (ocS (fun k => sDraw L op (ss / 100).toNatClampNeg (seed + nI k + 1).toInt64 (hStd (R h.toNatClampNeg)) 6) wide (ss - ss / 100 * 100).toNatClampNeg 0 0) (ss - ss / 100 * 100).toNatClampNeg else -4611686018427387904
theorem c_Model_odds (l : Launch) (G : xG) {d : Nat} (nn : Nat) (hd : 9 ≤ d) (I : xI) (hc tc ln : Nat) (SS : Nat → xSay) (hK0 : mOK I hc tc ln SS) (seed ss h op wide part : Int32) : XM l G d y_Model_odds b_Model_odds 11 (some .long) 0 0 xK0 [.ref (xg G 59), .int seed, .int ss, .int h, .int op, .int wide, .int part] nn (xm G xYf I) (some (.long (aOddsM hc (SS ln) (mRow I) seed ss h op wide part))) nn (xm G xYf (if xin seed 0 99999 = true ∧ xin ss 0 6040 = true ∧ xin (ss - ss / 100 * 100) 1 40 = true ∧ xin h 0 (nI hc - 1) = true ∧ xop op = true ∧ xin wide 0 99999 = true ∧ xin part 0 1 = true then xup I 59 (sc (I 59) (wnF (fun k _ => sDraw (SS ln) op (ss / 100).toNatClampNeg (seed + nI k + 1).toInt64 (hStd (mRow I h.toNatClampNeg))) (ss - ss / 100 * 100).toNatClampNeg 0 (mCur I)) (wnE (fun k _ => mDrE (SS ln) op (ss / 100).toNatClampNeg 0 (seed + nI k + 1).toInt64 (hStd (mRow I h.toNatClampNeg)) (-1)) (ss - ss / 100 * 100).toNatClampNeg 0 (I 59 33))) else I)) := by
  obtain ⟨⟨h0, h5⟩, ⟨h8, h6⟩, ⟨h9, hl⟩, hTs, hR⟩ := id hK0
  have hK : mK I ln (SS ln) := ⟨hTs ln hl, h9, by omega⟩
  generalize hSS : SS ln = S at hK ⊢
  refine XM.of (by decide) (Nat.le_of_ble_eq_true rfl) (L := [(0, .ref (xg G 59)), (1, .int seed), (2, .int ss), (3, .int h), (4, .int op), (5, .int wide), (6, .int part)]) rfl ?_
  refine X_iload_n d_Model_odds_0 rfl rfl ?_
  refine X_iconst (v := 0) d_Model_odds_1 rfl ?_
  refine X_ldc cs_Model_185 d_Model_odds_2 ?_
  refine X_callS (v := .int (xb (xin seed 0 99999))) (rest := []) (c_Model_in l G nn _ (by omega) seed 0 99999) lk_Model_in ml_Model_66 rfl (Nat.le_of_ble_eq_true rfl) (xRok (d' := d - 1) (by omega) (by decide)) ⟨Nat.le_refl _, Nat.le_refl _⟩ d_Model_odds_4 rfl ?_
  refine X_ifb_eq (tgt := 75) d_Model_odds_7 (by decide) (fun c_1 => ?_) (fun c_1 => ?_)
  ·
    refine X_iconst (v := 0) d_Model_odds_75 rfl ?_
    refine X_istore d_Model_odds_76 (by decide) [1, 2, 3, 4, 5, 6, 7, 0] (L' := [(0, .ref (xg G 59)), (1, .int seed), (2, .int ss), (3, .int h), (4, .int op), (5, .int wide), (6, .int part), (7, .int 0)]) rfl ?_
    refine X_iload d_Model_odds_78 rfl ?_
    refine X_if_ne (tgt := 87) d_Model_odds_80 (by decide) (fun c_2 => absurd c_2 (by decide)) (fun _ => ?_)
    refine X_ldc2 cs_Model_255 d_Model_odds_83 ?_
    exact X_lret rfl (congrArg (fun q => some (Value.long q)) (by subst hSS; first | (simp [aOddsM, c_1, xl_1_0, xl_1_1, xl_2_0, xl_2_1, xl_2_2, xl_3_0, xl_3_1, xl_3_2, xl_3_3]; done) | (exfalso; simp_all; done) | (clear hTs hR hK0 hK; simp_all [aOddsM]; done))) (xle_of (congrArg (xm G xYf) (by first | (subst hSS; simp [c_1, xl_3_0, xl_3_1, xl_3_2, xl_3_3, xl_2_0, xl_2_1, xl_2_2, xl_1_0, xl_1_1]; done) | (exfalso; simp_all; done)))) d_Model_odds_86
  ·
    refine X_iload_n d_Model_odds_10 rfl rfl ?_
    refine X_iconst (v := 0) d_Model_odds_11 rfl ?_
    refine X_sipush (v := 6040) d_Model_odds_12 rfl ?_
    refine X_callS (v := .int (xb (xin ss 0 6040))) (rest := []) (c_Model_in l G nn _ (by omega) ss 0 6040) lk_Model_in ml_Model_66 rfl (Nat.le_of_ble_eq_true rfl) (xRok (d' := d - 1) (by omega) (by decide)) ⟨Nat.le_refl _, Nat.le_refl _⟩ d_Model_odds_15 rfl ?_
    refine X_ifb_eq (tgt := 75) d_Model_odds_18 (by decide) (fun c_3 => ?_) (fun c_3 => ?_)
    ·
      refine X_iconst (v := 0) d_Model_odds_75 rfl ?_
      refine X_istore d_Model_odds_76 (by decide) [1, 2, 3, 4, 5, 6, 7, 0] (L' := [(0, .ref (xg G 59)), (1, .int seed), (2, .int ss), (3, .int h), (4, .int op), (5, .int wide), (6, .int part), (7, .int 0)]) rfl ?_
      refine X_iload d_Model_odds_78 rfl ?_
      refine X_if_ne (tgt := 87) d_Model_odds_80 (by decide) (fun c_4 => absurd c_4 (by decide)) (fun _ => ?_)
      refine X_ldc2 cs_Model_255 d_Model_odds_83 ?_
      exact X_lret rfl (congrArg (fun q => some (Value.long q)) (by subst hSS; first | (simp [aOddsM, c_1, c_3, xl_1_0, xl_1_1, xl_2_0, xl_2_1, xl_2_2, xl_3_0, xl_3_1, xl_3_2, xl_3_3]; done) | (exfalso; simp_all; done) | (clear hTs hR hK0 hK; simp_all [aOddsM]; done))) (xle_of (congrArg (xm G xYf) (by first | (subst hSS; simp [c_1, c_3, xl_3_0, xl_3_1, xl_3_2, xl_3_3, xl_2_0, xl_2_1, xl_2_2, xl_1_0, xl_1_1]; done) | (exfalso; simp_all; done)))) d_Model_odds_86
    ·
      refine X_iload_n d_Model_odds_21 rfl rfl ?_
      refine X_bipush (v := 100) d_Model_odds_22 rfl ?_
      refine X_irem d_Model_odds_24 (by decide) ?_
      refine X_iconst (v := 1) d_Model_odds_25 rfl ?_
      refine X_bipush (v := 40) d_Model_odds_26 rfl ?_
      refine X_callS (v := .int (xb (xin (ss - ss / 100 * 100) 1 40))) (rest := []) (c_Model_in l G nn _ (by omega) (ss - ss / 100 * 100) 1 40) lk_Model_in ml_Model_66 rfl (Nat.le_of_ble_eq_true rfl) (xRok (d' := d - 1) (by omega) (by decide)) ⟨Nat.le_refl _, Nat.le_refl _⟩ d_Model_odds_28 rfl ?_
      refine X_ifb_eq (tgt := 75) d_Model_odds_31 (by decide) (fun c_5 => ?_) (fun c_5 => ?_)
      ·
        refine X_iconst (v := 0) d_Model_odds_75 rfl ?_
        refine X_istore d_Model_odds_76 (by decide) [1, 2, 3, 4, 5, 6, 7, 0] (L' := [(0, .ref (xg G 59)), (1, .int seed), (2, .int ss), (3, .int h), (4, .int op), (5, .int wide), (6, .int part), (7, .int 0)]) rfl ?_
        refine X_iload d_Model_odds_78 rfl ?_
        refine X_if_ne (tgt := 87) d_Model_odds_80 (by decide) (fun c_6 => absurd c_6 (by decide)) (fun _ => ?_)
        refine X_ldc2 cs_Model_255 d_Model_odds_83 ?_
        exact X_lret rfl (congrArg (fun q => some (Value.long q)) (by subst hSS; first | (simp [aOddsM, c_1, c_3, c_5, xl_1_0, xl_1_1, xl_2_0, xl_2_1, xl_2_2, xl_3_0, xl_3_1, xl_3_2, xl_3_3]; done) | (exfalso; simp_all; done) | (clear hTs hR hK0 hK; simp_all [aOddsM]; done))) (xle_of (congrArg (xm G xYf) (by first | (subst hSS; simp [c_1, c_3, c_5, xl_3_0, xl_3_1, xl_3_2, xl_3_3, xl_2_0, xl_2_1, xl_2_2, xl_1_0, xl_1_1]; done) | (exfalso; simp_all; done)))) d_Model_odds_86
      ·
        refine X_aload_n d_Model_odds_34 rfl rfl ?_
        refine X_iload_n d_Model_odds_35 rfl rfl ?_
        refine X_callV (v := .int (xb (xin h 0 (nI hc - 1)))) (rest := []) (c_Model_isHead l G nn (by omega) I hc tc ln SS hK0 h) lk_Model_isHead ml_Model_149 (xm_obj (show xYf 59 = some sModel from rfl)) rfl rfl (Nat.le_of_ble_eq_true rfl) (xRok (d' := d - 1) (by omega) (by decide)) ⟨Nat.le_refl _, Nat.le_refl _⟩ d_Model_odds_36 rfl ?_
        refine X_ifb_eq (tgt := 75) d_Model_odds_39 (by decide) (fun c_7 => ?_) (fun c_7 => ?_)
        ·
          refine X_iconst (v := 0) d_Model_odds_75 rfl ?_
          refine X_istore d_Model_odds_76 (by decide) [1, 2, 3, 4, 5, 6, 7, 0] (L' := [(0, .ref (xg G 59)), (1, .int seed), (2, .int ss), (3, .int h), (4, .int op), (5, .int wide), (6, .int part), (7, .int 0)]) rfl ?_
          refine X_iload d_Model_odds_78 rfl ?_
          refine X_if_ne (tgt := 87) d_Model_odds_80 (by decide) (fun c_8 => absurd c_8 (by decide)) (fun _ => ?_)
          refine X_ldc2 cs_Model_255 d_Model_odds_83 ?_
          exact X_lret rfl (congrArg (fun q => some (Value.long q)) (by subst hSS; first | (simp [aOddsM, c_1, c_3, c_5, c_7, xl_1_0, xl_1_1, xl_2_0, xl_2_1, xl_2_2, xl_3_0, xl_3_1, xl_3_2, xl_3_3]; done) | (exfalso; simp_all; done) | (clear hTs hR hK0 hK; simp_all [aOddsM]; done))) (xle_of (congrArg (xm G xYf) (by first | (subst hSS; simp [c_1, c_3, c_5, c_7, xl_3_0, xl_3_1, xl_3_2, xl_3_3, xl_2_0, xl_2_1, xl_2_2, xl_1_0, xl_1_1]; done) | (exfalso; simp_all; done)))) d_Model_odds_86
        ·
          obtain ⟨i, hi, rfl⟩ := cHead h5 c_7
          refine X_iload d_Model_odds_42 rfl ?_
          refine X_callS (v := .int (xb (xop op))) (rest := []) (k_Model_areOdds l G nn _ (by omega) op) lk_Model_areOdds ml_Model_249 rfl (Nat.le_of_ble_eq_true rfl) (xRok (d' := d - 1) (by omega) (by decide)) ⟨Nat.le_refl _, Nat.le_refl _⟩ d_Model_odds_44 rfl ?_
          refine X_ifb_eq (tgt := 75) d_Model_odds_47 (by decide) (fun c_9 => ?_) (fun c_9 => ?_)
          ·
            refine X_iconst (v := 0) d_Model_odds_75 rfl ?_
            refine X_istore d_Model_odds_76 (by decide) [1, 2, 3, 4, 5, 6, 7, 0] (L' := [(0, .ref (xg G 59)), (1, .int seed), (2, .int ss), (3, .int (nI i)), (4, .int op), (5, .int wide), (6, .int part), (7, .int 0)]) rfl ?_
            refine X_iload d_Model_odds_78 rfl ?_
            refine X_if_ne (tgt := 87) d_Model_odds_80 (by decide) (fun c_10 => absurd c_10 (by decide)) (fun _ => ?_)
            refine X_ldc2 cs_Model_255 d_Model_odds_83 ?_
            exact X_lret rfl (congrArg (fun q => some (Value.long q)) (by subst hSS; first | (simp [aOddsM, c_1, c_3, c_5, c_7, nI_cl (show i < 2 ^ 31 by omega), c_9, xl_1_0, xl_1_1, xl_2_0, xl_2_1, xl_2_2, xl_3_0, xl_3_1, xl_3_2, xl_3_3]; done) | (exfalso; simp_all; done) | (clear hTs hR hK0 hK; simp_all [aOddsM, nI_cl (show i < 2 ^ 31 by omega)]; done))) (xle_of (congrArg (xm G xYf) (by first | (subst hSS; simp [c_1, c_3, c_5, c_7, nI_cl (show i < 2 ^ 31 by omega), c_9, xl_3_0, xl_3_1, xl_3_2, xl_3_3, xl_2_0, xl_2_1, xl_2_2, xl_1_0, xl_1_1]; done) | (exfalso; simp_all; done)))) d_Model_odds_86
          ·
            refine X_iload d_Model_odds_50 rfl ?_
            refine X_iconst (v := 0) d_Model_odds_52 rfl ?_
            refine X_ldc cs_Model_185 d_Model_odds_53 ?_
            refine X_callS (v := .int (xb (xin wide 0 99999))) (rest := []) (c_Model_in l G nn _ (by omega) wide 0 99999) lk_Model_in ml_Model_66 rfl (Nat.le_of_ble_eq_true rfl) (xRok (d' := d - 1) (by omega) (by decide)) ⟨Nat.le_refl _, Nat.le_refl _⟩ d_Model_odds_55 rfl ?_
            refine X_ifb_eq (tgt := 75) d_Model_odds_58 (by decide) (fun c_11 => ?_) (fun c_11 => ?_)
            ·
              refine X_iconst (v := 0) d_Model_odds_75 rfl ?_
              refine X_istore d_Model_odds_76 (by decide) [1, 2, 3, 4, 5, 6, 7, 0] (L' := [(0, .ref (xg G 59)), (1, .int seed), (2, .int ss), (3, .int (nI i)), (4, .int op), (5, .int wide), (6, .int part), (7, .int 0)]) rfl ?_
              refine X_iload d_Model_odds_78 rfl ?_
              refine X_if_ne (tgt := 87) d_Model_odds_80 (by decide) (fun c_12 => absurd c_12 (by decide)) (fun _ => ?_)
              refine X_ldc2 cs_Model_255 d_Model_odds_83 ?_
              exact X_lret rfl (congrArg (fun q => some (Value.long q)) (by subst hSS; first | (simp [aOddsM, c_1, c_3, c_5, c_7, nI_cl (show i < 2 ^ 31 by omega), c_9, c_11, xl_1_0, xl_1_1, xl_2_0, xl_2_1, xl_2_2, xl_3_0, xl_3_1, xl_3_2, xl_3_3]; done) | (exfalso; simp_all; done) | (clear hTs hR hK0 hK; simp_all [aOddsM, nI_cl (show i < 2 ^ 31 by omega)]; done))) (xle_of (congrArg (xm G xYf) (by first | (subst hSS; simp [c_1, c_3, c_5, c_7, nI_cl (show i < 2 ^ 31 by omega), c_9, c_11, xl_3_0, xl_3_1, xl_3_2, xl_3_3, xl_2_0, xl_2_1, xl_2_2, xl_1_0, xl_1_1]; done) | (exfalso; simp_all; done)))) d_Model_odds_86
            ·
              refine X_iload d_Model_odds_61 rfl ?_
              refine X_iconst (v := 0) d_Model_odds_63 rfl ?_
              refine X_iconst (v := 1) d_Model_odds_64 rfl ?_
              refine X_callS (v := .int (xb (xin part 0 1))) (rest := []) (c_Model_in l G nn _ (by omega) part 0 1) lk_Model_in ml_Model_66 rfl (Nat.le_of_ble_eq_true rfl) (xRok (d' := d - 1) (by omega) (by decide)) ⟨Nat.le_refl _, Nat.le_refl _⟩ d_Model_odds_65 rfl ?_
              refine X_ifb_eq (tgt := 75) d_Model_odds_68 (by decide) (fun c_13 => ?_) (fun c_13 => ?_)
              ·
                refine X_iconst (v := 0) d_Model_odds_75 rfl ?_
                refine X_istore d_Model_odds_76 (by decide) [1, 2, 3, 4, 5, 6, 7, 0] (L' := [(0, .ref (xg G 59)), (1, .int seed), (2, .int ss), (3, .int (nI i)), (4, .int op), (5, .int wide), (6, .int part), (7, .int 0)]) rfl ?_
                refine X_iload d_Model_odds_78 rfl ?_
                refine X_if_ne (tgt := 87) d_Model_odds_80 (by decide) (fun c_14 => absurd c_14 (by decide)) (fun _ => ?_)
                refine X_ldc2 cs_Model_255 d_Model_odds_83 ?_
                exact X_lret rfl (congrArg (fun q => some (Value.long q)) (by subst hSS; first | (simp [aOddsM, c_1, c_3, c_5, c_7, nI_cl (show i < 2 ^ 31 by omega), c_9, c_11, c_13, xl_1_0, xl_1_1, xl_2_0, xl_2_1, xl_2_2, xl_3_0, xl_3_1, xl_3_2, xl_3_3]; done) | (exfalso; simp_all; done) | (clear hTs hR hK0 hK; simp_all [aOddsM, nI_cl (show i < 2 ^ 31 by omega)]; done))) (xle_of (congrArg (xm G xYf) (by first | (subst hSS; simp [c_1, c_3, c_5, c_7, nI_cl (show i < 2 ^ 31 by omega), c_9, c_11, c_13, xl_3_0, xl_3_1, xl_3_2, xl_3_3, xl_2_0, xl_2_1, xl_2_2, xl_1_0, xl_1_1]; done) | (exfalso; simp_all; done)))) d_Model_odds_86
              ·
                refine X_iconst (v := 1) d_Model_odds_71 rfl ?_
                refine X_goto (tgt := 76) d_Model_odds_72 (by decide) ?_
                refine X_istore d_Model_odds_76 (by decide) [1, 2, 3, 4, 5, 6, 7, 0] (L' := [(0, .ref (xg G 59)), (1, .int seed), (2, .int ss), (3, .int (nI i)), (4, .int op), (5, .int wide), (6, .int part), (7, .int 1)]) rfl ?_
                refine X_iload d_Model_odds_78 rfl ?_
                refine X_if_ne (tgt := 87) d_Model_odds_80 (by decide) (fun _ => ?_) (fun c_15 => absurd c_15 (by decide))
                refine X_lconst (v := 0) d_Model_odds_87 rfl ?_
                refine X_lstore d_Model_odds_88 (by decide) [1, 2, 3, 4, 5, 6, 7, 8, 0] (L' := [(0, .ref (xg G 59)), (1, .int seed), (2, .int ss), (3, .int (nI i)), (4, .int op), (5, .int wide), (6, .int part), (7, .int 1), (8, .long 0)]) rfl ?_
                refine X_iconst (v := 0) d_Model_odds_90 rfl ?_
                refine X_istore d_Model_odds_91 (by decide) [1, 2, 3, 4, 5, 6, 7, 8, 9, 0] (L' := [(0, .ref (xg G 59)), (1, .int seed), (2, .int ss), (3, .int (nI i)), (4, .int op), (5, .int wide), (6, .int part), (7, .int 1), (8, .long 0), (10, .int 0)]) rfl ?_
                obtain ⟨N, hN, hN0, hTe⟩ := xss_T c_5
                have hx := xloop (Q := fun k => ∀ m f e, m ≤ k → Q_Model_odds l G d nn I i S seed ss op wide part N k m f e) (T := N) (fun k hk ih m f e => w_Model_odds l G nn hd I ln i S hK (by omega) seed ss op wide part c_1 (xss_w2 c_3) N hN hN0 hTe k hk ih m f e) 0 (Nat.zero_le _) 0 (mCur I) (I 59 33) (Nat.le_refl _)
                unfold Q_Model_odds at hx
                rw [sc_self, Nat.sub_zero] at hx
                rw [aOddsM, if_pos ⟨c_1, c_3, c_5, c_7, c_9, c_11, c_13⟩, if_pos ⟨c_1, c_3, c_5, c_7, c_9, c_11, c_13⟩, nI_cl (show i < 2 ^ 31 by omega), hTe, nI_cl (show N < 2 ^ 31 by omega)]
                refine X_sub [0, 1, 2, 3, 4, 5, 6, 8, 9] (L' := [(0, .ref (xg G 59)), (1, .int seed), (2, .int ss), (3, .int (nI i)), (4, .int op), (5, .int wide), (6, .int part), (8, .long 0), (10, .int 0)]) rfl ?_
                exact hx
