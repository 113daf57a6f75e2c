def flM (b N : Nat) (h : Nat → Int32) (k : Nat) (g : Nat → Int32) : Nat → Int32 := fun j => if b ≤ j ∧ j < b + k then (if j - b < N then h (j - b) else 0) else g j
theorem flM_0 (b N : Nat) (h g : Nat → Int32) : flM b N h 0 g = g := by
  funext j
  rw [flM, if_neg (by omega)]
theorem flM_s (b N : Nat) (h : Nat → Int32) (k : Nat) (g : Nat → Int32) : xup (flM b N h k g) (b + k) (if k < N then h k else 0) = flM b N h (k + 1) g := by
  funext j
  by_cases e : j = b + k
  · subst e
    rw [xup_s, flM, if_pos (show b ≤ b + k ∧ b + k < b + (k + 1) by omega), show b + k - b = k by omega]
  · rw [xup_n _ _ e, flM, flM]
    by_cases h2 : b ≤ j ∧ j < b + k
    · rw [if_pos h2, if_pos (show b ≤ j ∧ j < b + (k + 1) by omega)]
    · rw [if_neg h2, if_neg (by omega)]
theorem fl_up {J : xI} {g r : Nat → Int32} {k : Nat} {v : Int32} {h : Nat → Int32} {b N : Nat} (hv : v = if k < N then h k else 0) : xw (xup (xup J 69 (flM b N h k g)) 59 r) 69 (b + k) v = xup (xup J 69 (flM b N h (k + 1) g)) 59 r := by
  rw [xw_is, xup_n _ _ (show (69 : Nat) ≠ 59 by decide), xup_s, hv, flM_s]
  funext x
  simp only [xup_ap]
  grind
theorem mRec_69 {J : xI} {i : Nat} {f : Nat → Int32} (h : mRec J i f) (g : Nat → Int32) : mRec (xup J 69 g) i f := by
  obtain ⟨a, b, c, e⟩ := h
  refine ⟨?_, ?_, ?_, ?_⟩
  · rw [xup_n _ _ (by decide)]; exact a
  · rw [xup_n _ _ (by decide)]; exact b
  · rw [xup_n _ _ (by decide)]; exact c
  · rw [xup_n _ _ (by decide)]; exact e
theorem mK_69 {J : xI} {ln : Nat} {S : xSay} (h : mK J ln S) (g : Nat → Int32) : mK (xup J 69 g) ln S := ⟨mTx_kept h.1 (xup_n _ _ (by decide)) (xup_n _ _ (by decide)), by rw [xup_n _ _ (by decide)]; exact h.2.1, h.2.2⟩
def Q_Model_film (l : Launch) (G : xG) (d nn : Nat) (J : xI) (q i : Nat) (S : xSay) (n sp : Int32) (N : Nat) (F : Nat → Int32) (k : Nat) : Prop := XW l G (xR d 0 0) y_Model_film b_Model_film 7 (some .int) xK0 (xZ G nn (xm G xYf (xup (xup J 69 (flM (40 * q) N (fun j => hGo S (sp - sp / 10 * 10) 1 (j + 1) F 6) 40 (J 69))) 59 (sc (J 59) (hGo S (sp - sp / 10 * 10) 1 40 F) (mEs S (sp - sp / 10 * 10) 1 F (-1) 40)))) (some (.int (nI N))) 0 0) nn (xm G xYf (xup (xup J 69 (flM (40 * q) N (fun j => hGo S (sp - sp / 10 * 10) 1 (j + 1) F 6) k (J 69))) 59 (sc (J 59) (hGo S (sp - sp / 10 * 10) 1 k F) (mEs S (sp - sp / 10 * 10) 1 F (-1) k)))) 0 0 88 [(0, .ref (xg G 59)), (1, .int (nI q)), (2, .int (nI i)), (3, .int n), (4, .int sp), (5, .int (nI N)), (6, .int (nI k))] []
theorem w_Model_film (l : Launch) (G : xG) {d : Nat} (nn : Nat) (hd : 9 ≤ d) (J : xI) (ln q i : Nat) (S : xSay) (hK : mK J ln S) (hq : q < 4) (hi : i < 5) (n sp : Int32) (N : Nat) (hN : N ≤ 40) (F : Nat → Int32) (hF : mRec J i F) (h7 : F 7 = 0 ∨ F 7 = 1) (k : Nat) (hk : k ≤ 40) (ih : k < 40 → Q_Model_film l G d nn J q i S n sp N F (k + 1)) : Q_Model_film l G d nn J q i S n sp N F k := by
  unfold Q_Model_film
  refine X_iload d_Model_film_88 rfl ?_
  refine X_bipush (v := 40) d_Model_film_90 rfl ?_
  refine X_icmp_ge (tgt := 141) d_Model_film_92 (by decide) (fun c_1 => ?_) (fun c_1 => ?_)
  ·
    refine X_iload d_Model_film_141 rfl ?_
    have hz : k = 40 := nI_done hk (by decide) c_1
    subst hz
    exact X_iret rfl rfl (xle_rf _) d_Model_film_143
  ·
    have hlt : k < 40 := nI_more hk (by decide) c_1
    refine X_aload_n d_Model_film_95 rfl rfl ?_
    refine X_iload_n d_Model_film_96 rfl rfl ?_
    refine X_iload d_Model_film_97 rfl ?_
    refine X_bipush (v := 10) d_Model_film_99 rfl ?_
    refine X_irem d_Model_film_101 (by decide) ?_
    refine X_iconst (v := 1) d_Model_film_102 rfl ?_
    refine X_iload d_Model_film_103 rfl ?_
    refine X_callVv (rest := []) (by have q0 := c_Model_step l G nn (d := d - 1) (by omega) (xup J 69 (flM (40 * q) N (fun j => hGo S (sp - sp / 10 * 10) 1 (j + 1) F 6) k (J 69))) ln i S (mK_69 hK _) hi (hGo S (sp - sp / 10 * 10) 1 k F) (mRec_69 (mRec_go _ _ _ _ hF) _) (mEs S (sp - sp / 10 * 10) 1 F (-1) k) (sp - sp / 10 * 10) 1 (nI k) (hGo_7 _ _ _ _ h7); rw [xup_n J _ (show (59 : Nat) ≠ 69 by decide), ← hGo_succ] at q0; exact q0) lk_Model_step ml_Model_189 (xm_obj (show xYf 59 = some sModel from rfl)) rfl rfl (Nat.le_of_ble_eq_true rfl) (xRok (d' := d - 1) (by omega) (by decide)) ⟨Nat.le_refl _, Nat.le_refl _⟩ d_Model_film_105 rfl ?_
    refine X_aload_n d_Model_film_108 rfl rfl ?_
    refine X_getR (r := 69) fg_Model_37 (show xYf 59 = some sModel from rfl) rfl d_Model_film_109 ?_
    refine X_bipush (v := 40) d_Model_film_112 rfl ?_
    refine X_iload_n d_Model_film_114 rfl rfl ?_
    refine X_imul d_Model_film_115 ?_
    refine X_iload d_Model_film_116 rfl ?_
    refine X_iadd d_Model_film_118 ?_
    refine X_iload d_Model_film_119 rfl ?_
    refine X_iload d_Model_film_121 rfl ?_
    refine X_icmp_ge (tgt := 133) d_Model_film_123 (by decide) (fun c_2 => ?_) (fun c_2 => ?_)
    ·
      refine X_iconst (v := 0) d_Model_film_133 rfl ?_
      refine X_astI (show xYf 69 = some (sInts 160) from rfl) (ixin (ixA (ixM (show (40 : Int32) = nI 40 from rfl) (show nI q = nI q from rfl)) (show nI k = nI k from rfl)) (show 40 * q + k < 160 by omega) (by decide)) d_Model_film_134 ?_
      rw [ixcl (x := (40 * (nI q)) + (nI k)) (ixA (ixM (show (40 : Int32) = nI 40 from rfl) (show nI q = nI q from rfl)) (show nI k = nI k from rfl)) (show 40 * q + k < 2 ^ 31 by omega)]
      rw [fl_up (N := N) (h := (fun j => hGo S (sp - sp / 10 * 10) 1 (j + 1) F 6)) (by rw [if_neg (show ¬ k < N from fun z => absurd (nI_lt z (by omega)) (Int32.not_lt.mpr c_2))])]
      refine X_iinc d_Model_film_135 rfl (v := (nI k) + 1) rfl (by decide) [1, 2, 3, 4, 5, 6, 0] (L' := [(0, .ref (xg G 59)), (1, .int (nI q)), (2, .int (nI i)), (3, .int n), (4, .int sp), (5, .int (nI N)), (6, .int ((nI k) + 1))]) rfl ?_
      refine X_goto (tgt := 88) d_Model_film_138 (by decide) ?_
      have key := ih hlt
      unfold Q_Model_film at key
      rw [nI_1]
      exact key
    ·
      refine X_aload_n d_Model_film_126 rfl rfl ?_
      refine X_getI (v := (hGo S (sp - sp / 10 * 10) 1 (k + 1) F) 6) fg_Model_186 (show xYf 59 = some sModel from rfl) rfl ((congrFun (xup_s _ _ _) _).trans (sc_31 _ _ _)) d_Model_film_127 ?_
      refine X_goto (tgt := 134) d_Model_film_130 (by decide) ?_
      refine X_astI (show xYf 69 = some (sInts 160) from rfl) (ixin (ixA (ixM (show (40 : Int32) = nI 40 from rfl) (show nI q = nI q from rfl)) (show nI k = nI k from rfl)) (show 40 * q + k < 160 by omega) (by decide)) d_Model_film_134 ?_
      rw [ixcl (x := (40 * (nI q)) + (nI k)) (ixA (ixM (show (40 : Int32) = nI 40 from rfl) (show nI q = nI q from rfl)) (show nI k = nI k from rfl)) (show 40 * q + k < 2 ^ 31 by omega)]
      rw [fl_up (N := N) (h := (fun j => hGo S (sp - sp / 10 * 10) 1 (j + 1) F 6)) (by rw [if_pos (show k < N from (nI_ltI (by omega) (by omega)).mp (Int32.not_le.mp c_2))])]
      refine X_iinc d_Model_film_135 rfl (v := (nI k) + 1) rfl (by decide) [1, 2, 3, 4, 5, 6, 0] (L' := [(0, .ref (xg G 59)), (1, .int (nI q)), (2, .int (nI i)), (3, .int n), (4, .int sp), (5, .int (nI N)), (6, .int ((nI k) + 1))]) rfl ?_
      refine X_goto (tgt := 88) d_Model_film_138 (by decide) ?_
      have key := ih hlt
      unfold Q_Model_film at key
      rw [nI_1]
      exact key
theorem c_Model_film (l : Launch) (G : xG) {d : Nat} (nn : Nat) (hd : 10 ≤ d) (I : xI) (hc tc ln : Nat) (SS : Nat → xSay) (hK0 : mOK I hc tc ln SS) (s h n sp sec : Int32) : XM l G d y_Model_film b_Model_film 7 (some .int) 0 0 xK0 [.ref (xg G 59), .int s, .int h, .int n, .int sp, .int sec] nn (xm G xYf I) (some (.int (aFilm hc s h n sp sec))) nn (xm G xYf (if okFilm hc s h n sp sec = true then xup (xup (xw (xw I 67 s.toNatClampNeg 2) 68 s.toNatClampNeg sec) 69 (flM (40 * s.toNatClampNeg) sec.toNatClampNeg (fun j => hGo (SS ln) (sp - sp / 10 * 10) 1 (j + 1) (tTry (SS ln) n (sp / 10) 0 (mRow I h.toNatClampNeg)) 6) 40 (I 69))) 59 (sc (I 59) (hGo (SS ln) (sp - sp / 10 * 10) 1 40 (tTry (SS ln) n (sp / 10) 0 (mRow I h.toNatClampNeg))) (mEs (SS ln) (sp - sp / 10 * 10) 1 (tTry (SS ln) n (sp / 10) 0 (mRow I h.toNatClampNeg)) (-1) 40)) else I)) := by
  obtain ⟨⟨h0, h5⟩, ⟨h8, h6⟩, ⟨h9, hl⟩, hTs, hR⟩ := id hK0
  have hK : mK I ln (SS ln) := ⟨hTs ln hl, h9, by omega⟩
  generalize hSS : SS ln = S at hK ⊢
  refine XM.of (by decide) (Nat.le_of_ble_eq_true rfl) (L := [(0, .ref (xg G 59)), (1, .int s), (2, .int h), (3, .int n), (4, .int sp), (5, .int sec)]) rfl ?_
  refine X_iload_n d_Model_film_0 rfl rfl ?_
  refine X_iconst (v := 0) d_Model_film_1 rfl ?_
  refine X_iconst (v := 3) d_Model_film_2 rfl ?_
  refine X_callS (v := .int (xb (xin s 0 3))) (rest := []) (c_Model_in l G nn _ (by omega) s 0 3) lk_Model_in ml_Model_66 rfl (Nat.le_of_ble_eq_true rfl) (xRok (d' := d - 1) (by omega) (by decide)) ⟨Nat.le_refl _, Nat.le_refl _⟩ d_Model_film_3 rfl ?_
  refine X_ifb_ne (tgt := 12) d_Model_film_6 (by decide) (fun c_1 => ?_) (fun c_1 => ?_)
  ·
    obtain ⟨q, hq0, rfl⟩ := cTop (n := 3) (by decide) c_1
    have hq : q < 4 := by omega
    refine X_aload_n d_Model_film_12 rfl rfl ?_
    refine X_iload_n d_Model_film_13 rfl rfl ?_
    refine X_callV (v := .int (xb (xin h 0 (nI hc - 1)))) (rest := []) (c_Model_isHead l G nn (by omega) I hc tc ln SS hK0 h) lk_Model_isHead ml_Model_149 (xm_obj (show xYf 59 = some sModel from rfl)) rfl rfl (Nat.le_of_ble_eq_true rfl) (xRok (d' := d - 1) (by omega) (by decide)) ⟨Nat.le_refl _, Nat.le_refl _⟩ d_Model_film_14 rfl ?_
    refine X_ifb_ne (tgt := 23) d_Model_film_17 (by decide) (fun c_2 => ?_) (fun c_2 => ?_)
    ·
      obtain ⟨i, hi, rfl⟩ := cHead h5 c_2
      refine X_iload_n d_Model_film_23 rfl rfl ?_
      refine X_callS (v := .int (xb (xin n (-40) 40))) (rest := []) (c_Model_isTurned l G nn _ (by omega) n) lk_Model_isTurned ml_Model_193 rfl (Nat.le_of_ble_eq_true rfl) (xRok (d' := d - 1) (by omega) (by decide)) ⟨Nat.le_refl _, Nat.le_refl _⟩ d_Model_film_24 rfl ?_
      refine X_ifb_eq (tgt := 49) d_Model_film_27 (by decide) (fun c_3 => ?_) (fun c_3 => ?_)
      ·
        refine X_bipush (v := -7) d_Model_film_49 rfl ?_
        exact X_iret rfl (congrArg (fun q => some (Value.int q)) (by subst hSS; first | (simp [aFilm, c_1, nI_cl (show q < 2 ^ 31 by omega), c_2, nI_cl (show i < 2 ^ 31 by omega), c_3, xl_1_0, xl_1_1, xl_2_0, xl_2_1, xl_2_2, xl_3_0, xl_3_1, xl_3_2, xl_3_3]; done) | (exfalso; simp_all; done) | (clear hTs hR hK0 hK; simp_all [aFilm, nI_cl (show q < 2 ^ 31 by omega), nI_cl (show i < 2 ^ 31 by omega)]; done))) (xle_of (congrArg (xm G xYf) (by first | (subst hSS; simp [okFilm, c_1, nI_cl (show q < 2 ^ 31 by omega), c_2, nI_cl (show i < 2 ^ 31 by omega), c_3]; done) | (exfalso; simp_all; done)))) d_Model_film_51
      ·
        refine X_iload d_Model_film_30 rfl ?_
        refine X_callS (v := .int (xb (xsp sp))) (rest := []) (k_Model_areDigits l G nn _ (by omega) sp) lk_Model_areDigits ml_Model_215 rfl (Nat.le_of_ble_eq_true rfl) (xRok (d' := d - 1) (by omega) (by decide)) ⟨Nat.le_refl _, Nat.le_refl _⟩ d_Model_film_32 rfl ?_
        refine X_ifb_eq (tgt := 49) d_Model_film_35 (by decide) (fun c_4 => ?_) (fun c_4 => ?_)
        ·
          refine X_bipush (v := -7) d_Model_film_49 rfl ?_
          exact X_iret rfl (congrArg (fun q => some (Value.int q)) (by subst hSS; first | (simp [aFilm, c_1, nI_cl (show q < 2 ^ 31 by omega), c_2, nI_cl (show i < 2 ^ 31 by omega), c_3, c_4, xl_1_0, xl_1_1, xl_2_0, xl_2_1, xl_2_2, xl_3_0, xl_3_1, xl_3_2, xl_3_3]; done) | (exfalso; simp_all; done) | (clear hTs hR hK0 hK; simp_all [aFilm, nI_cl (show q < 2 ^ 31 by omega), nI_cl (show i < 2 ^ 31 by omega)]; done))) (xle_of (congrArg (xm G xYf) (by first | (subst hSS; simp [okFilm, c_1, nI_cl (show q < 2 ^ 31 by omega), c_2, nI_cl (show i < 2 ^ 31 by omega), c_3, c_4]; done) | (exfalso; simp_all; done)))) d_Model_film_51
        ·
          refine X_iload d_Model_film_38 rfl ?_
          refine X_iconst (v := 0) d_Model_film_40 rfl ?_
          refine X_bipush (v := 40) d_Model_film_41 rfl ?_
          refine X_callS (v := .int (xb (xin sec 0 40))) (rest := []) (c_Model_in l G nn _ (by omega) sec 0 40) lk_Model_in ml_Model_66 rfl (Nat.le_of_ble_eq_true rfl) (xRok (d' := d - 1) (by omega) (by decide)) ⟨Nat.le_refl _, Nat.le_refl _⟩ d_Model_film_43 rfl ?_
          refine X_ifb_ne (tgt := 52) d_Model_film_46 (by decide) (fun c_5 => ?_) (fun c_5 => ?_)
          ·
            obtain ⟨N, hN, hNe⟩ := cTop (n := 40) (by decide) c_5
            refine X_aload_n d_Model_film_52 rfl rfl ?_
            refine X_getR (r := 67) fg_Model_31 (show xYf 59 = some sModel from rfl) rfl d_Model_film_53 ?_
            refine X_iload_n d_Model_film_56 rfl rfl ?_
            refine X_iconst (v := 2) d_Model_film_57 rfl ?_
            refine X_astI (show xYf 67 = some (sInts 4) from rfl) (ixin (show nI q = nI q from rfl) (show q < 4 by omega) (by decide)) d_Model_film_58 ?_
            rw [ixcl (x := (nI q)) (show nI q = nI q from rfl) (show q < 2 ^ 31 by omega)]
            refine X_aload_n d_Model_film_59 rfl rfl ?_
            refine X_getR (r := 68) fg_Model_34 (show xYf 59 = some sModel from rfl) rfl d_Model_film_60 ?_
            refine X_iload_n d_Model_film_63 rfl rfl ?_
            refine X_iload d_Model_film_64 rfl ?_
            refine X_astI (show xYf 68 = some (sInts 4) from rfl) (ixin (show nI q = nI q from rfl) (show q < 4 by omega) (by decide)) d_Model_film_66 ?_
            rw [ixcl (x := (nI q)) (show nI q = nI q from rfl) (show q < 2 ^ 31 by omega)]
            generalize hJ : xw (xw I 67 q 2) 68 q sec = J
            have eJ : ∀ x, x ≠ 67 → x ≠ 68 → J x = I x := by intro x h1 h2; rw [← hJ, xw_is, xup_n _ _ h2, xw_is, xup_n _ _ h1]
            have hKJ : mK J ln S := ⟨mTx_kept hK.1 (eJ _ (by decide) (by decide)) (eJ _ (by decide) (by decide)), by rw [eJ _ (by decide) (by decide)]; exact hK.2.1, hK.2.2⟩
            have rJ : mRow J i = mRow I i := by unfold mRow; rw [eJ 60 (by decide) (by decide), eJ 61 (by decide) (by decide), eJ 62 (by decide) (by decide)]
            refine X_aload_n d_Model_film_67 rfl rfl ?_
            refine X_iload_n d_Model_film_68 rfl rfl ?_
            refine X_iload_n d_Model_film_69 rfl rfl ?_
            refine X_iload d_Model_film_70 rfl ?_
            refine X_bipush (v := 10) d_Model_film_72 rfl ?_
            refine X_idiv d_Model_film_74 (by decide) ?_
            refine X_iconst (v := 0) d_Model_film_75 rfl ?_
            refine X_iload d_Model_film_76 rfl ?_
            refine X_bipush (v := 10) d_Model_film_78 rfl ?_
            refine X_irem d_Model_film_80 (by decide) ?_
            refine X_iconst (v := 0) d_Model_film_81 rfl ?_
            refine X_callVv (rest := []) (by have q0 := c_Model_tries l G nn (d := d - 1) (by omega) J i (by omega) (mCur J) (J 59 33) ln S hKJ n (sp / 10) 0 (sp - sp / 10 * 10) 0 (xsp_s c_4) (by rw [eJ 61 (by decide) (by decide)]; exact (hR i (by omega)).1) (xin_abs c_3) (xin_abs2 c_3) (by decide) (by decide) (by decide) (by decide); rw [sc_self, rJ] at q0; exact q0) lk_Model_tries ml_Model_218 (xm_obj (show xYf 59 = some sModel from rfl)) rfl rfl (Nat.le_of_ble_eq_true rfl) (xRok (d' := d - 1) (by omega) (by decide)) ⟨Nat.le_refl _, Nat.le_refl _⟩ d_Model_film_82 rfl ?_
            refine X_iconst (v := 0) d_Model_film_85 rfl ?_
            refine X_istore d_Model_film_86 (by decide) [1, 2, 3, 4, 5, 6, 0] (L' := [(0, .ref (xg G 59)), (1, .int (nI q)), (2, .int (nI i)), (3, .int n), (4, .int sp), (5, .int sec), (6, .int 0)]) rfl ?_
            have hx := xloop (T := 40) (fun k hk ih => w_Model_film (d := d) l G nn (by omega) J ln q i S hKJ hq (by omega) n sp N hN (tTry S n (sp / 10) 0 (mRow I i)) (by have hrr := mRec_try (mRec_row J i) S n (sp / 10) 0; rw [rJ] at hrr; exact hrr) (Or.inl tTry_7) k hk ih) 0 (by decide)
            unfold Q_Model_film at hx
            have e0 : xup J 69 (flM (40 * q) N (fun j => hGo S (sp - sp / 10 * 10) 1 (j + 1) (tTry S n (sp / 10) 0 (mRow I i)) 6) 0 (J 69)) = J := by rw [flM_0, xup_self]
            rw [e0, hGo, mEs] at hx
            rw [aFilm, if_pos c_1, if_pos c_2, if_pos (show okFilm hc (nI q) (nI i) n sp sec = true by simp [okFilm, c_1, c_2, c_3, c_4, c_5]), if_pos ⟨c_3, c_4, c_5⟩, nI_cl (show i < 2 ^ 31 by omega)]
            try rw [nI_cl (show q < 2 ^ 31 by omega)]
            try rw [hJ]
            rw [← eJ 59 (by decide) (by decide), ← eJ 69 (by decide) (by decide), hNe, nI_cl (show N < 2 ^ 31 by omega)]
            subst hNe
            exact hx
          ·
            refine X_bipush (v := -7) d_Model_film_49 rfl ?_
            exact X_iret rfl (congrArg (fun q => some (Value.int q)) (by subst hSS; first | (simp [aFilm, c_1, nI_cl (show q < 2 ^ 31 by omega), c_2, nI_cl (show i < 2 ^ 31 by omega), c_3, c_4, c_5, xl_1_0, xl_1_1, xl_2_0, xl_2_1, xl_2_2, xl_3_0, xl_3_1, xl_3_2, xl_3_3]; done) | (exfalso; simp_all; done) | (clear hTs hR hK0 hK; simp_all [aFilm, nI_cl (show q < 2 ^ 31 by omega), nI_cl (show i < 2 ^ 31 by omega)]; done))) (xle_of (congrArg (xm G xYf) (by first | (subst hSS; simp [okFilm, c_1, nI_cl (show q < 2 ^ 31 by omega), c_2, nI_cl (show i < 2 ^ 31 by omega), c_3, c_4, c_5]; done) | (exfalso; simp_all; done)))) d_Model_film_51
    ·
      refine X_bipush (v := -5) d_Model_film_20 rfl ?_
      exact X_iret rfl (congrArg (fun q => some (Value.int q)) (by subst hSS; first | (simp [aFilm, c_1, nI_cl (show q < 2 ^ 31 by omega), c_2, xl_1_0, xl_1_1, xl_2_0, xl_2_1, xl_2_2, xl_3_0, xl_3_1, xl_3_2, xl_3_3]; done) | (exfalso; simp_all; done) | (clear hTs hR hK0 hK; simp_all [aFilm, nI_cl (show q < 2 ^ 31 by omega)]; done))) (xle_of (congrArg (xm G xYf) (by first | (subst hSS; simp [okFilm, c_1, nI_cl (show q < 2 ^ 31 by omega), c_2]; done) | (exfalso; simp_all; done)))) d_Model_film_22
  ·
    refine X_bipush (v := -2) d_Model_film_9 rfl ?_
    exact X_iret rfl (congrArg (fun q => some (Value.int q)) (by subst hSS; first | (simp [aFilm, c_1, xl_1_0, xl_1_1, xl_2_0, xl_2_1, xl_2_2, xl_3_0, xl_3_1, xl_3_2, xl_3_3]; done) | (exfalso; simp_all; done) | (clear hTs hR hK0 hK; simp_all [aFilm]; done))) (xle_of (congrArg (xm G xYf) (by first | (subst hSS; simp [okFilm, c_1]; done) | (exfalso; simp_all; done)))) d_Model_film_11
