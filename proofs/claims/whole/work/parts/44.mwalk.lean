theorem xwsp_s {v : Int32} (h : xwsp v = true) : (¬ v / 10 - v / 10 / 10 * 10 < 0 ∧ v / 10 - v / 10 / 10 * 10 ≤ 9) ∧ ¬ v / 100 < 0 ∧ v / 100 ≤ 100 := by
  have hw := xwsp_iff.mp h
  rw [xin_iff] at hw
  obtain ⟨k, hk, rfl⟩ := nI_of (Int32.not_lt.mpr hw.1.1)
  have hk2 : k ≤ 6099 := (nI_leI hk (by decide)).mp hw.1.2
  have e1 : nI k / 100 = nI (k / 100) := q_div hk 100 (by decide) (by decide)
  have e2 : nI k / 10 = nI (k / 10) := q_div hk 10 (by decide) (by decide)
  have e3 : nI (k / 10) - nI (k / 10) / 10 * 10 = nI (k / 10 % 10) := q_rem (by omega) 10 (by decide) (by decide)
  rw [e1, e2, e3]
  exact ⟨⟨nI_pos (by omega), (nI_leI (b := 9) (by omega) (by decide)).mpr (by omega)⟩, nI_pos (by omega), (nI_leI (b := 100) (by omega) (by decide)).mpr (by omega)⟩
def mEg (S : xSay) (p y : Int32) : Nat → Nat → (Nat → Int32) → Int32 → Int32
  | 0, _, _, e => e
  | k + 1, i, f, e => mEg S p y k (i + 1) (hStep S p y f) (mE f e (nI i))
theorem mEg_s (S : xSay) (p y : Int32) : ∀ (k i : Nat) (f : Nat → Int32) (e : Int32), mEg S p y (k + 1) i f e = mE (hGo S p y k f) (mEg S p y k i f e) (nI (i + k))
  | 0, i, f, e => rfl
  | k + 1, i, f, e => by
    rw [mEg, mEg_s S p y k (i + 1) (hStep S p y f), show i + 1 + k = i + (k + 1) by omega]
    rfl
theorem mEs_g (S : xSay) (p y : Int32) (f : Nat → Int32) (e : Int32) : ∀ k, mEs S p y f e k = mEg S p y k 0 f e
  | 0 => rfl
  | k + 1 => by rw [mEg_s, mEs, mEs_g S p y f e k, Nat.zero_add]
theorem mEg_down (S : xSay) (p y : Int32) : ∀ (k i : Nat) (f : Nat → Int32) (e : Int32), f 7 = 1 → mEg S p y k i f e = e
  | 0, _, _, _, _ => rfl
  | k + 1, i, f, e, h => by
    rw [mEg, hStep_down S p y f h, mE, if_neg (by rw [h]; decide)]
    exact mEg_down S p y k (i + 1) f e h
theorem mEg_fall (S : xSay) (p y : Int32) : ∀ (k i : Nat) (f : Nat → Int32), f 7 = 0 → mEg S p y k i f (-1) = hFall S p y k i f
  | 0, _, _, _ => rfl
  | k + 1, i, f, h => by
    rw [mEg, hFall, if_pos h, mE, if_pos h]
    by_cases hm : hMust f = true
    · have e : hStep S p y f 7 = 1 := by rw [hStep, if_pos h, if_pos hm, xup_s]
      rw [if_pos hm, if_neg (by rw [e]; decide)]
      exact mEg_down S p y k (i + 1) _ _ e
    · have e : hStep S p y f 7 = 0 := by rw [hStep, if_pos h, if_neg hm, hFade_7, xup_n _ _ (by decide), xup_n _ _ (by decide)]; exact h
      rw [if_neg hm, if_pos e]
      exact mEg_fall S p y k (i + 1) _ e
theorem mEs_fall {S : xSay} {p y : Int32} {f : Nat → Int32} (h : f 7 = 0) (k : Nat) : mEs S p y f (-1) k = hFall S p y k 0 f := by rw [mEs_g, mEg_fall S p y k 0 f h]
theorem k_Model_areDigits (l : Launch) (G : xG) {d : Nat} (nn : Nat) (M : xM) (hd : 2 ≤ d) (v : Int32) : XM l G d y_Model_areDigits b_Model_areDigits 1 (some .boolean) 0 0 xK0 [.int v] nn M (some (.int (xb (xsp v)))) nn M := by rw [← mDig_eq]; exact c_Model_areDigits l G nn M hd v
theorem k_Model_areOdds (l : Launch) (G : xG) {d : Nat} (nn : Nat) (M : xM) (hd : 2 ≤ d) (v : Int32) : XM l G d y_Model_areOdds b_Model_areOdds 1 (some .boolean) 0 0 xK0 [.int v] nn M (some (.int (xb (xop v)))) nn M := by rw [← mOdd_eq]; exact c_Model_areOdds l G nn M hd v
theorem k_Model_isRace (l : Launch) (G : xG) {d : Nat} (nn : Nat) (M : xM) (hd : 3 ≤ d) (n sp fw what : Int32) : XM l G d y_Model_isRace b_Model_isRace 4 (some .boolean) 0 0 xK0 [.int n, .int sp, .int fw, .int what] nn M (some (.int (xb (xrace n sp fw what)))) nn M := by rw [← mRace_eq]; exact c_Model_isRace l G nn M hd n sp fw what
theorem c_Model_walk (l : Launch) (G : xG) {d : Nat} (nn : Nat) (hd : 8 ≤ d) (I : xI) (hc tc ln : Nat) (SS : Nat → xSay) (hK0 : mOK I hc tc ln SS) (h sec pe : Int32) : XM l G d y_Model_walk b_Model_walk 4 (some .int) 0 0 xK0 [.ref (xg G 59), .int h, .int sec, .int pe] nn (xm G xYf I) (some (.int (aWalk hc (SS ln) (mRow I) h sec pe))) nn (xm G xYf (if okWalk hc h sec pe = true then xup (xup I 59 (sc (I 59) (hGo (SS ln) (pe / 10) (pe - pe / 10 * 10) sec.toNatClampNeg (mRow I h.toNatClampNeg)) (mEs (SS ln) (pe / 10) (pe - pe / 10 * 10) (mRow I h.toNatClampNeg) (I 59 33) sec.toNatClampNeg))) 62 (mLay (I 62) h.toNatClampNeg (hGo (SS ln) (pe / 10) (pe - pe / 10 * 10) sec.toNatClampNeg (mRow I h.toNatClampNeg))) else I)) := by
  obtain ⟨⟨h0, h5⟩, ⟨h8, h6⟩, ⟨h9, hl⟩, hTs, hR⟩ := id hK0
  have hK : mK I ln (SS ln) := ⟨hTs ln hl, h9, by omega⟩
  generalize hSS : SS ln = S at hK ⊢
  refine XM.of (by decide) (Nat.le_of_ble_eq_true rfl) (L := [(0, .ref (xg G 59)), (1, .int h), (2, .int sec), (3, .int pe)]) rfl ?_
  refine X_aload_n d_Model_walk_0 rfl rfl ?_
  refine X_iload_n d_Model_walk_1 rfl rfl ?_
  refine X_callV (v := .int (xb (xin h 0 (nI hc - 1)))) (rest := []) (c_Model_isHead l G nn (by omega) I hc tc ln SS hK0 h) lk_Model_isHead ml_Model_149 (xm_obj (show xYf 59 = some sModel from rfl)) rfl rfl (Nat.le_of_ble_eq_true rfl) (xRok (d' := d - 1) (by omega) (by decide)) ⟨Nat.le_refl _, Nat.le_refl _⟩ d_Model_walk_2 rfl ?_
  refine X_ifb_ne (tgt := 11) d_Model_walk_5 (by decide) (fun c_1 => ?_) (fun c_1 => ?_)
  ·
    obtain ⟨i, hi, rfl⟩ := cHead h5 c_1
    refine X_iload_n d_Model_walk_11 rfl rfl ?_
    refine X_iconst (v := 0) d_Model_walk_12 rfl ?_
    refine X_bipush (v := 60) d_Model_walk_13 rfl ?_
    refine X_callS (v := .int (xb (xin sec 0 60))) (rest := []) (c_Model_in l G nn _ (by omega) sec 0 60) lk_Model_in ml_Model_66 rfl (Nat.le_of_ble_eq_true rfl) (xRok (d' := d - 1) (by omega) (by decide)) ⟨Nat.le_refl _, Nat.le_refl _⟩ d_Model_walk_15 rfl ?_
    refine X_ifb_eq (tgt := 40) d_Model_walk_18 (by decide) (fun c_2 => ?_) (fun c_2 => ?_)
    ·
      refine X_ldc cs_Model_157 d_Model_walk_40 ?_
      exact X_iret rfl (congrArg (fun q => some (Value.int q)) (by subst hSS; first | (simp [aWalk, c_1, nI_cl (show i < 2 ^ 31 by omega), c_2, xl_1_0, xl_1_1, xl_2_0, xl_2_1, xl_2_2, xl_3_0, xl_3_1, xl_3_2, xl_3_3]; done) | (exfalso; simp_all; done) | (clear hTs hR hK0 hK; simp_all [aWalk, nI_cl (show i < 2 ^ 31 by omega)]; done))) (xle_of (congrArg (xm G xYf) (by first | (subst hSS; simp [okWalk, c_1, nI_cl (show i < 2 ^ 31 by omega), c_2, xl_3_0, xl_3_1, xl_3_2, xl_3_3, xl_2_0, xl_2_1, xl_2_2, xl_1_0, xl_1_1]; done) | (exfalso; simp_all; done)))) d_Model_walk_42
    ·
      refine X_iload_n d_Model_walk_21 rfl rfl ?_
      refine X_bipush (v := 10) d_Model_walk_22 rfl ?_
      refine X_bipush (v := 91) d_Model_walk_24 rfl ?_
      refine X_callS (v := .int (xb (xin pe 10 91))) (rest := []) (c_Model_in l G nn _ (by omega) pe 10 91) lk_Model_in ml_Model_66 rfl (Nat.le_of_ble_eq_true rfl) (xRok (d' := d - 1) (by omega) (by decide)) ⟨Nat.le_refl _, Nat.le_refl _⟩ d_Model_walk_26 rfl ?_
      refine X_ifb_eq (tgt := 40) d_Model_walk_29 (by decide) (fun c_3 => ?_) (fun c_3 => ?_)
      ·
        have nk : xnum pe 1 = false := by cases hx : xnum pe 1 with | false => rfl | true => (obtain ⟨z1, z2⟩ := xnum_1.mp hx; simp_all)
        refine X_ldc cs_Model_157 d_Model_walk_40 ?_
        exact X_iret rfl (congrArg (fun q => some (Value.int q)) (by subst hSS; first | (simp [aWalk, c_1, nI_cl (show i < 2 ^ 31 by omega), c_2, c_3, nk, xl_1_0, xl_1_1, xl_2_0, xl_2_1, xl_2_2, xl_3_0, xl_3_1, xl_3_2, xl_3_3]; done) | (exfalso; simp_all; done) | (clear hTs hR hK0 hK; simp_all [aWalk, nI_cl (show i < 2 ^ 31 by omega)]; done))) (xle_of (congrArg (xm G xYf) (by first | (subst hSS; simp [okWalk, c_1, nI_cl (show i < 2 ^ 31 by omega), c_2, c_3, nk, xl_3_0, xl_3_1, xl_3_2, xl_3_3, xl_2_0, xl_2_1, xl_2_2, xl_1_0, xl_1_1]; done) | (exfalso; simp_all; done)))) d_Model_walk_42
      ·
        refine X_iload_n d_Model_walk_32 rfl rfl ?_
        refine X_bipush (v := 10) d_Model_walk_33 rfl ?_
        refine X_irem d_Model_walk_35 (by decide) ?_
        refine X_iconst (v := 1) d_Model_walk_36 rfl ?_
        refine X_icmp_le (tgt := 43) d_Model_walk_37 (by decide) (fun c_4 => ?_) (fun c_4 => ?_)
        ·
          have ok : xnum pe 1 = true := xnum_1.mpr ⟨c_3, c_4⟩
          refine X_aload_n d_Model_walk_43 rfl rfl ?_
          refine X_iload_n d_Model_walk_44 rfl rfl ?_
          refine X_callVv (rest := []) (by have q := c_Model_takes l G nn (d := d - 1) (by omega) I i (by omega) (mCur I) (I 59 33) (hR i (by omega)).2; rw [sc_self] at q; exact q) lk_Model_takes ml_Model_196 (xm_obj (show xYf 59 = some sModel from rfl)) rfl rfl (Nat.le_of_ble_eq_true rfl) (xRok (d' := d - 1) (by omega) (by decide)) ⟨Nat.le_refl _, Nat.le_refl _⟩ d_Model_walk_45 rfl ?_
          refine X_aload_n d_Model_walk_48 rfl rfl ?_
          refine X_iload_n d_Model_walk_49 rfl rfl ?_
          refine X_iload_n d_Model_walk_50 rfl rfl ?_
          refine X_iload_n d_Model_walk_51 rfl rfl ?_
          refine X_bipush (v := 10) d_Model_walk_52 rfl ?_
          refine X_idiv d_Model_walk_54 (by decide) ?_
          refine X_iload_n d_Model_walk_55 rfl rfl ?_
          refine X_bipush (v := 10) d_Model_walk_56 rfl ?_
          refine X_irem d_Model_walk_58 (by decide) ?_
          refine X_callVv (rest := []) (c_Model_walks l G nn (by omega) I ln i S hK (by omega) (mRow I i) (mRec_row I i) (I 59 33) sec (pe / 10) (pe - pe / 10 * 10) (xin_60 c_2).1 (xin_60 c_2).2 (hR i (by omega)).2) lk_Model_walks ml_Model_209 (xm_obj (show xYf 59 = some sModel from rfl)) rfl rfl (Nat.le_of_ble_eq_true rfl) (xRok (d' := d - 1) (by omega) (by decide)) ⟨Nat.le_refl _, Nat.le_refl _⟩ d_Model_walk_59 rfl ?_
          refine X_aload_n d_Model_walk_62 rfl rfl ?_
          refine X_iload_n d_Model_walk_63 rfl rfl ?_
          refine X_callVv (rest := []) (c_Model_lays l G nn (by omega) I i (by omega) (hGo S (pe / 10) (pe - pe / 10 * 10) (sec).toNatClampNeg (mRow I i)) (mEs S (pe / 10) (pe - pe / 10 * 10) (mRow I i) (I 59 33) (sec).toNatClampNeg) (hGo_7 _ _ _ _ (hR i (by omega)).2)) lk_Model_lays ml_Model_203 (xm_obj (show xYf 59 = some sModel from rfl)) rfl rfl (Nat.le_of_ble_eq_true rfl) (xRok (d' := d - 1) (by omega) (by decide)) ⟨Nat.le_refl _, Nat.le_refl _⟩ d_Model_walk_64 rfl ?_
          refine X_aload_n d_Model_walk_67 rfl rfl ?_
          refine X_getI (v := (hGo S (pe / 10) (pe - pe / 10 * 10) (sec).toNatClampNeg (mRow I i)) 6) fg_Model_186 (show xYf 59 = some sModel from rfl) rfl ((congrFun (xup_n _ _ (by decide)) _).trans ((congrFun (xup_s _ _ _) _).trans (sc_31 _ _ _))) d_Model_walk_68 ?_
          exact X_iret rfl (congrArg (fun q => some (Value.int q)) (by subst hSS; first | (simp [aWalk, c_1, nI_cl (show i < 2 ^ 31 by omega), c_2, c_3, c_4, Int32.not_lt.mpr c_4, ok, xl_1_0, xl_1_1, xl_2_0, xl_2_1, xl_2_2, xl_3_0, xl_3_1, xl_3_2, xl_3_3]; done) | (exfalso; simp_all; done) | (clear hTs hR hK0 hK; simp_all [aWalk, nI_cl (show i < 2 ^ 31 by omega)]; done))) (xle_of (congrArg (xm G xYf) (by first | (subst hSS; simp [okWalk, c_1, nI_cl (show i < 2 ^ 31 by omega), c_2, c_3, c_4, Int32.not_lt.mpr c_4, ok, xl_3_0, xl_3_1, xl_3_2, xl_3_3, xl_2_0, xl_2_1, xl_2_2, xl_1_0, xl_1_1]; done) | (exfalso; simp_all; done)))) d_Model_walk_71
        ·
          have nk : xnum pe 1 = false := by cases hx : xnum pe 1 with | false => rfl | true => (obtain ⟨z1, z2⟩ := xnum_1.mp hx; simp_all)
          refine X_ldc cs_Model_157 d_Model_walk_40 ?_
          exact X_iret rfl (congrArg (fun q => some (Value.int q)) (by subst hSS; first | (simp [aWalk, c_1, nI_cl (show i < 2 ^ 31 by omega), c_2, c_3, c_4, Int32.not_le.mp c_4, nk, xl_1_0, xl_1_1, xl_2_0, xl_2_1, xl_2_2, xl_3_0, xl_3_1, xl_3_2, xl_3_3]; done) | (exfalso; simp_all; done) | (clear hTs hR hK0 hK; simp_all [aWalk, nI_cl (show i < 2 ^ 31 by omega)]; done))) (xle_of (congrArg (xm G xYf) (by first | (subst hSS; simp [okWalk, c_1, nI_cl (show i < 2 ^ 31 by omega), c_2, c_3, c_4, Int32.not_le.mp c_4, nk, xl_3_0, xl_3_1, xl_3_2, xl_3_3, xl_2_0, xl_2_1, xl_2_2, xl_1_0, xl_1_1]; done) | (exfalso; simp_all; done)))) d_Model_walk_42
  ·
    refine X_ldc cs_Model_156 d_Model_walk_8 ?_
    exact X_iret rfl (congrArg (fun q => some (Value.int q)) (by subst hSS; first | (simp [aWalk, c_1, xl_1_0, xl_1_1, xl_2_0, xl_2_1, xl_2_2, xl_3_0, xl_3_1, xl_3_2, xl_3_3]; done) | (exfalso; simp_all; done) | (clear hTs hR hK0 hK; simp_all [aWalk]; done))) (xle_of (congrArg (xm G xYf) (by first | (subst hSS; simp [okWalk, c_1, xl_3_0, xl_3_1, xl_3_2, xl_3_3, xl_2_0, xl_2_1, xl_2_2, xl_1_0, xl_1_1]; done) | (exfalso; simp_all; done)))) d_Model_walk_10
theorem c_Model_ends (l : Launch) (G : xG) {d : Nat} (nn : Nat) (hd : 9 ≤ d) (I : xI) (hc tc ln : Nat) (SS : Nat → xSay) (hK0 : mOK I hc tc ln SS) (h n wsp sec what : Int32) : XM l G d y_Model_ends b_Model_ends 7 (some .int) 0 0 xK0 [.ref (xg G 59), .int h, .int n, .int wsp, .int sec, .int what] nn (xm G xYf I) (some (.int (aEnds hc (SS ln) (mRow I) h n wsp sec what))) nn (xm G xYf (if xin h 0 (nI hc - 1) = true ∧ xin n (-40) 40 = true ∧ xwsp wsp = true ∧ xin sec 0 60 = true ∧ xin what 0 3 = true then xup I 59 (sc (I 59) (hGo (SS ln) (wsp - wsp / 10 * 10) 1 sec.toNatClampNeg (tTry (SS ln) n (wsp / 10 - wsp / 10 / 10 * 10) (wsp / 100) (mRow I h.toNatClampNeg))) (mEs (SS ln) (wsp - wsp / 10 * 10) 1 (tTry (SS ln) n (wsp / 10 - wsp / 10 / 10 * 10) (wsp / 100) (mRow I h.toNatClampNeg)) (-1) sec.toNatClampNeg)) else I)) := by
  obtain ⟨⟨h0, h5⟩, ⟨h8, h6⟩, ⟨h9, hl⟩, hTs, hR⟩ := id hK0
  have hK : mK I ln (SS ln) := ⟨hTs ln hl, h9, by omega⟩
  generalize hSS : SS ln = S at hK ⊢
  refine XM.of (by decide) (Nat.le_of_ble_eq_true rfl) (L := [(0, .ref (xg G 59)), (1, .int h), (2, .int n), (3, .int wsp), (4, .int sec), (5, .int what)]) rfl ?_
  refine X_aload_n d_Model_ends_0 rfl rfl ?_
  refine X_iload_n d_Model_ends_1 rfl rfl ?_
  refine X_callV (v := .int (xb (xin h 0 (nI hc - 1)))) (rest := []) (c_Model_isHead l G nn (by omega) I hc tc ln SS hK0 h) lk_Model_isHead ml_Model_149 (xm_obj (show xYf 59 = some sModel from rfl)) rfl rfl (Nat.le_of_ble_eq_true rfl) (xRok (d' := d - 1) (by omega) (by decide)) ⟨Nat.le_refl _, Nat.le_refl _⟩ d_Model_ends_2 rfl ?_
  refine X_ifb_ne (tgt := 11) d_Model_ends_5 (by decide) (fun c_1 => ?_) (fun c_1 => ?_)
  ·
    obtain ⟨i, hi, rfl⟩ := cHead h5 c_1
    refine X_iload_n d_Model_ends_11 rfl rfl ?_
    refine X_callS (v := .int (xb (xin n (-40) 40))) (rest := []) (c_Model_isTurned l G nn _ (by omega) n) lk_Model_isTurned ml_Model_193 rfl (Nat.le_of_ble_eq_true rfl) (xRok (d' := d - 1) (by omega) (by decide)) ⟨Nat.le_refl _, Nat.le_refl _⟩ d_Model_ends_12 rfl ?_
    refine X_ifb_eq (tgt := 64) d_Model_ends_15 (by decide) (fun c_2 => ?_) (fun c_2 => ?_)
    ·
      refine X_iconst (v := 0) d_Model_ends_64 rfl ?_
      refine X_istore d_Model_ends_65 (by decide) [1, 2, 3, 4, 5, 6, 0] (L' := [(0, .ref (xg G 59)), (1, .int (nI i)), (2, .int n), (3, .int wsp), (4, .int sec), (5, .int what), (6, .int 0)]) rfl ?_
      refine X_iload d_Model_ends_67 rfl ?_
      refine X_if_ne (tgt := 75) d_Model_ends_69 (by decide) (fun c_3 => absurd c_3 (by decide)) (fun _ => ?_)
      refine X_ldc cs_Model_157 d_Model_ends_72 ?_
      exact X_iret rfl (congrArg (fun q => some (Value.int q)) (by subst hSS; first | (simp [aEnds, mEs_fall tTry_7, c_1, nI_cl (show i < 2 ^ 31 by omega), c_2, xl_1_0, xl_1_1, xl_2_0, xl_2_1, xl_2_2, xl_3_0, xl_3_1, xl_3_2, xl_3_3]; done) | (exfalso; simp_all; done) | (clear hTs hR hK0 hK; simp_all [aEnds, mEs_fall tTry_7, nI_cl (show i < 2 ^ 31 by omega)]; done))) (xle_of (congrArg (xm G xYf) (by first | (subst hSS; simp [c_1, nI_cl (show i < 2 ^ 31 by omega), c_2, xl_3_0, xl_3_1, xl_3_2, xl_3_3, xl_2_0, xl_2_1, xl_2_2, xl_1_0, xl_1_1]; done) | (exfalso; simp_all; done)))) d_Model_ends_74
    ·
      refine X_iload_n d_Model_ends_18 rfl rfl ?_
      refine X_iconst (v := 0) d_Model_ends_19 rfl ?_
      refine X_sipush (v := 6099) d_Model_ends_20 rfl ?_
      refine X_callS (v := .int (xb (xin wsp 0 6099))) (rest := []) (c_Model_in l G nn _ (by omega) wsp 0 6099) lk_Model_in ml_Model_66 rfl (Nat.le_of_ble_eq_true rfl) (xRok (d' := d - 1) (by omega) (by decide)) ⟨Nat.le_refl _, Nat.le_refl _⟩ d_Model_ends_23 rfl ?_
      refine X_ifb_eq (tgt := 64) d_Model_ends_26 (by decide) (fun c_4 => ?_) (fun c_4 => ?_)
      ·
        refine X_iconst (v := 0) d_Model_ends_64 rfl ?_
        refine X_istore d_Model_ends_65 (by decide) [1, 2, 3, 4, 5, 6, 0] (L' := [(0, .ref (xg G 59)), (1, .int (nI i)), (2, .int n), (3, .int wsp), (4, .int sec), (5, .int what), (6, .int 0)]) rfl ?_
        refine X_iload d_Model_ends_67 rfl ?_
        refine X_if_ne (tgt := 75) d_Model_ends_69 (by decide) (fun c_5 => absurd c_5 (by decide)) (fun _ => ?_)
        have nk : xwsp wsp = false := by cases hx : xwsp wsp with | false => rfl | true => (obtain ⟨z1, z2⟩ := xwsp_iff.mp hx; simp_all)
        refine X_ldc cs_Model_157 d_Model_ends_72 ?_
        exact X_iret rfl (congrArg (fun q => some (Value.int q)) (by subst hSS; first | (simp [aEnds, mEs_fall tTry_7, c_1, nI_cl (show i < 2 ^ 31 by omega), c_2, c_4, nk, xl_1_0, xl_1_1, xl_2_0, xl_2_1, xl_2_2, xl_3_0, xl_3_1, xl_3_2, xl_3_3]; done) | (exfalso; simp_all; done) | (clear hTs hR hK0 hK; simp_all [aEnds, mEs_fall tTry_7, nI_cl (show i < 2 ^ 31 by omega)]; done))) (xle_of (congrArg (xm G xYf) (by first | (subst hSS; simp [c_1, nI_cl (show i < 2 ^ 31 by omega), c_2, c_4, nk, xl_3_0, xl_3_1, xl_3_2, xl_3_3, xl_2_0, xl_2_1, xl_2_2, xl_1_0, xl_1_1]; done) | (exfalso; simp_all; done)))) d_Model_ends_74
      ·
        refine X_iload_n d_Model_ends_29 rfl rfl ?_
        refine X_bipush (v := 100) d_Model_ends_30 rfl ?_
        refine X_irem d_Model_ends_32 (by decide) ?_
        refine X_callS (v := .int (xb (xsp (wsp - wsp / 100 * 100)))) (rest := []) (k_Model_areDigits l G nn _ (by omega) (wsp - wsp / 100 * 100)) lk_Model_areDigits ml_Model_215 rfl (Nat.le_of_ble_eq_true rfl) (xRok (d' := d - 1) (by omega) (by decide)) ⟨Nat.le_refl _, Nat.le_refl _⟩ d_Model_ends_33 rfl ?_
        refine X_ifb_eq (tgt := 64) d_Model_ends_36 (by decide) (fun c_6 => ?_) (fun c_6 => ?_)
        ·
          refine X_iconst (v := 0) d_Model_ends_64 rfl ?_
          refine X_istore d_Model_ends_65 (by decide) [1, 2, 3, 4, 5, 6, 0] (L' := [(0, .ref (xg G 59)), (1, .int (nI i)), (2, .int n), (3, .int wsp), (4, .int sec), (5, .int what), (6, .int 0)]) rfl ?_
          refine X_iload d_Model_ends_67 rfl ?_
          refine X_if_ne (tgt := 75) d_Model_ends_69 (by decide) (fun c_7 => absurd c_7 (by decide)) (fun _ => ?_)
          have nk : xwsp wsp = false := by cases hx : xwsp wsp with | false => rfl | true => (obtain ⟨z1, z2⟩ := xwsp_iff.mp hx; simp_all)
          refine X_ldc cs_Model_157 d_Model_ends_72 ?_
          exact X_iret rfl (congrArg (fun q => some (Value.int q)) (by subst hSS; first | (simp [aEnds, mEs_fall tTry_7, c_1, nI_cl (show i < 2 ^ 31 by omega), c_2, c_4, c_6, nk, xl_1_0, xl_1_1, xl_2_0, xl_2_1, xl_2_2, xl_3_0, xl_3_1, xl_3_2, xl_3_3]; done) | (exfalso; simp_all; done) | (clear hTs hR hK0 hK; simp_all [aEnds, mEs_fall tTry_7, nI_cl (show i < 2 ^ 31 by omega)]; done))) (xle_of (congrArg (xm G xYf) (by first | (subst hSS; simp [c_1, nI_cl (show i < 2 ^ 31 by omega), c_2, c_4, c_6, nk, xl_3_0, xl_3_1, xl_3_2, xl_3_3, xl_2_0, xl_2_1, xl_2_2, xl_1_0, xl_1_1]; done) | (exfalso; simp_all; done)))) d_Model_ends_74
        ·
          refine X_iload d_Model_ends_39 rfl ?_
          refine X_iconst (v := 0) d_Model_ends_41 rfl ?_
          refine X_bipush (v := 60) d_Model_ends_42 rfl ?_
          refine X_callS (v := .int (xb (xin sec 0 60))) (rest := []) (c_Model_in l G nn _ (by omega) sec 0 60) lk_Model_in ml_Model_66 rfl (Nat.le_of_ble_eq_true rfl) (xRok (d' := d - 1) (by omega) (by decide)) ⟨Nat.le_refl _, Nat.le_refl _⟩ d_Model_ends_44 rfl ?_
          refine X_ifb_eq (tgt := 64) d_Model_ends_47 (by decide) (fun c_8 => ?_) (fun c_8 => ?_)
          ·
            refine X_iconst (v := 0) d_Model_ends_64 rfl ?_
            refine X_istore d_Model_ends_65 (by decide) [1, 2, 3, 4, 5, 6, 0] (L' := [(0, .ref (xg G 59)), (1, .int (nI i)), (2, .int n), (3, .int wsp), (4, .int sec), (5, .int what), (6, .int 0)]) rfl ?_
            refine X_iload d_Model_ends_67 rfl ?_
            refine X_if_ne (tgt := 75) d_Model_ends_69 (by decide) (fun c_9 => absurd c_9 (by decide)) (fun _ => ?_)
            refine X_ldc cs_Model_157 d_Model_ends_72 ?_
            exact X_iret rfl (congrArg (fun q => some (Value.int q)) (by subst hSS; first | (simp [aEnds, mEs_fall tTry_7, c_1, nI_cl (show i < 2 ^ 31 by omega), c_2, c_4, c_6, c_8, xl_1_0, xl_1_1, xl_2_0, xl_2_1, xl_2_2, xl_3_0, xl_3_1, xl_3_2, xl_3_3]; done) | (exfalso; simp_all; done) | (clear hTs hR hK0 hK; simp_all [aEnds, mEs_fall tTry_7, nI_cl (show i < 2 ^ 31 by omega)]; done))) (xle_of (congrArg (xm G xYf) (by first | (subst hSS; simp [c_1, nI_cl (show i < 2 ^ 31 by omega), c_2, c_4, c_6, c_8, xl_3_0, xl_3_1, xl_3_2, xl_3_3, xl_2_0, xl_2_1, xl_2_2, xl_1_0, xl_1_1]; done) | (exfalso; simp_all; done)))) d_Model_ends_74
          ·
            refine X_iload d_Model_ends_50 rfl ?_
            refine X_iconst (v := 0) d_Model_ends_52 rfl ?_
            refine X_iconst (v := 3) d_Model_ends_53 rfl ?_
            refine X_callS (v := .int (xb (xin what 0 3))) (rest := []) (c_Model_in l G nn _ (by omega) what 0 3) lk_Model_in ml_Model_66 rfl (Nat.le_of_ble_eq_true rfl) (xRok (d' := d - 1) (by omega) (by decide)) ⟨Nat.le_refl _, Nat.le_refl _⟩ d_Model_ends_54 rfl ?_
            refine X_ifb_eq (tgt := 64) d_Model_ends_57 (by decide) (fun c_10 => ?_) (fun c_10 => ?_)
            ·
              refine X_iconst (v := 0) d_Model_ends_64 rfl ?_
              refine X_istore d_Model_ends_65 (by decide) [1, 2, 3, 4, 5, 6, 0] (L' := [(0, .ref (xg G 59)), (1, .int (nI i)), (2, .int n), (3, .int wsp), (4, .int sec), (5, .int what), (6, .int 0)]) rfl ?_
              refine X_iload d_Model_ends_67 rfl ?_
              refine X_if_ne (tgt := 75) d_Model_ends_69 (by decide) (fun c_11 => absurd c_11 (by decide)) (fun _ => ?_)
              refine X_ldc cs_Model_157 d_Model_ends_72 ?_
              exact X_iret rfl (congrArg (fun q => some (Value.int q)) (by subst hSS; first | (simp [aEnds, mEs_fall tTry_7, c_1, nI_cl (show i < 2 ^ 31 by omega), c_2, c_4, c_6, c_8, c_10, xl_1_0, xl_1_1, xl_2_0, xl_2_1, xl_2_2, xl_3_0, xl_3_1, xl_3_2, xl_3_3]; done) | (exfalso; simp_all; done) | (clear hTs hR hK0 hK; simp_all [aEnds, mEs_fall tTry_7, nI_cl (show i < 2 ^ 31 by omega)]; done))) (xle_of (congrArg (xm G xYf) (by first | (subst hSS; simp [c_1, nI_cl (show i < 2 ^ 31 by omega), c_2, c_4, c_6, c_8, c_10, xl_3_0, xl_3_1, xl_3_2, xl_3_3, xl_2_0, xl_2_1, xl_2_2, xl_1_0, xl_1_1]; done) | (exfalso; simp_all; done)))) d_Model_ends_74
            ·
              refine X_iconst (v := 1) d_Model_ends_60 rfl ?_
              refine X_goto (tgt := 65) d_Model_ends_61 (by decide) ?_
              refine X_istore d_Model_ends_65 (by decide) [1, 2, 3, 4, 5, 6, 0] (L' := [(0, .ref (xg G 59)), (1, .int (nI i)), (2, .int n), (3, .int wsp), (4, .int sec), (5, .int what), (6, .int 1)]) rfl ?_
              refine X_iload d_Model_ends_67 rfl ?_
              refine X_if_ne (tgt := 75) d_Model_ends_69 (by decide) (fun _ => ?_) (fun c_12 => absurd c_12 (by decide))
              have ok : xwsp wsp = true := xwsp_iff.mpr ⟨c_4, c_6⟩
              refine X_aload_n d_Model_ends_75 rfl rfl ?_
              refine X_iload_n d_Model_ends_76 rfl rfl ?_
              refine X_iload_n d_Model_ends_77 rfl rfl ?_
              refine X_iload_n d_Model_ends_78 rfl rfl ?_
              refine X_bipush (v := 10) d_Model_ends_79 rfl ?_
              refine X_idiv d_Model_ends_81 (by decide) ?_
              refine X_bipush (v := 10) d_Model_ends_82 rfl ?_
              refine X_irem d_Model_ends_84 (by decide) ?_
              refine X_iload_n d_Model_ends_85 rfl rfl ?_
              refine X_bipush (v := 100) d_Model_ends_86 rfl ?_
              refine X_idiv d_Model_ends_88 (by decide) ?_
              refine X_iload_n d_Model_ends_89 rfl rfl ?_
              refine X_bipush (v := 10) d_Model_ends_90 rfl ?_
              refine X_irem d_Model_ends_92 (by decide) ?_
              refine X_iload d_Model_ends_93 rfl ?_
              refine X_callVv (rest := []) (by have q := c_Model_tries l G nn (d := d - 1) (by omega) I i (by omega) (mCur I) (I 59 33) ln S hK n ((wsp / 10) - (wsp / 10) / 10 * 10) (wsp / 100) (wsp - wsp / 10 * 10) sec (xwsp_s ok).1 (hR i (by omega)).1 (xin_abs c_2) (xin_abs2 c_2) (xwsp_s ok).2.1 (xwsp_s ok).2.2 (xin_60 c_8).1 (xin_60 c_8).2; rw [sc_self] at q; exact q) lk_Model_tries ml_Model_218 (xm_obj (show xYf 59 = some sModel from rfl)) rfl rfl (Nat.le_of_ble_eq_true rfl) (xRok (d' := d - 1) (by omega) (by decide)) ⟨Nat.le_refl _, Nat.le_refl _⟩ d_Model_ends_95 rfl ?_
              refine X_iload d_Model_ends_98 rfl ?_
              refine X_if_ne (tgt := 110) d_Model_ends_100 (by decide) (fun c_13 => ?_) (fun c_13 => ?_)
              ·
                refine X_iload d_Model_ends_110 rfl ?_
                refine X_iconst (v := 1) d_Model_ends_112 rfl ?_
                refine X_icmp_ne (tgt := 123) d_Model_ends_113 (by decide) (fun c_14 => ?_) (fun c_14 => ?_)
                ·
                  refine X_iload d_Model_ends_123 rfl ?_
                  refine X_iconst (v := 2) d_Model_ends_125 rfl ?_
                  refine X_icmp_ne (tgt := 136) d_Model_ends_126 (by decide) (fun c_15 => ?_) (fun c_15 => ?_)
                  ·
                    refine X_aload_n d_Model_ends_136 rfl rfl ?_
                    refine X_getI (v := (mEs S (wsp - wsp / 10 * 10) 1 (tTry S n ((wsp / 10) - (wsp / 10) / 10 * 10) (wsp / 100) (mRow I i)) (-1) (sec).toNatClampNeg)) fg_Model_178 (show xYf 59 = some sModel from rfl) rfl ((congrFun (xup_s _ _ _) _).trans (sc_33 _ _ _)) d_Model_ends_137 ?_
                    exact X_iret rfl (congrArg (fun q => some (Value.int q)) (by subst hSS; first | (simp [aEnds, mEs_fall tTry_7, c_1, nI_cl (show i < 2 ^ 31 by omega), c_2, c_4, c_6, c_8, c_10, ok, c_13, c_14, c_15, xl_1_0, xl_1_1, xl_2_0, xl_2_1, xl_2_2, xl_3_0, xl_3_1, xl_3_2, xl_3_3]; done) | (exfalso; simp_all; done) | (clear hTs hR hK0 hK; simp_all [aEnds, mEs_fall tTry_7, nI_cl (show i < 2 ^ 31 by omega)]; done))) (xle_of (congrArg (xm G xYf) (by first | (subst hSS; simp [c_1, nI_cl (show i < 2 ^ 31 by omega), c_2, c_4, c_6, c_8, c_10, ok, c_13, c_14, c_15, xl_3_0, xl_3_1, xl_3_2, xl_3_3, xl_2_0, xl_2_1, xl_2_2, xl_1_0, xl_1_1]; done) | (exfalso; simp_all; done)))) d_Model_ends_140
                  ·
                    refine X_aload_n d_Model_ends_129 rfl rfl ?_
                    refine X_getI (v := (hGo S (wsp - wsp / 10 * 10) 1 (sec).toNatClampNeg (tTry S n ((wsp / 10) - (wsp / 10) / 10 * 10) (wsp / 100) (mRow I i))) 5) fg_Model_181 (show xYf 59 = some sModel from rfl) rfl ((congrFun (xup_s _ _ _) _).trans (sc_30 _ _ _)) d_Model_ends_130 ?_
                    refine X_goto (tgt := 140) d_Model_ends_133 (by decide) ?_
                    exact X_iret rfl (congrArg (fun q => some (Value.int q)) (by subst hSS; first | (simp [aEnds, mEs_fall tTry_7, c_1, nI_cl (show i < 2 ^ 31 by omega), c_2, c_4, c_6, c_8, c_10, ok, c_13, c_14, c_15, xl_1_0, xl_1_1, xl_2_0, xl_2_1, xl_2_2, xl_3_0, xl_3_1, xl_3_2, xl_3_3]; done) | (exfalso; simp_all; done) | (clear hTs hR hK0 hK; simp_all [aEnds, mEs_fall tTry_7, nI_cl (show i < 2 ^ 31 by omega)]; done))) (xle_of (congrArg (xm G xYf) (by first | (subst hSS; simp [c_1, nI_cl (show i < 2 ^ 31 by omega), c_2, c_4, c_6, c_8, c_10, ok, c_13, c_14, c_15, xl_3_0, xl_3_1, xl_3_2, xl_3_3, xl_2_0, xl_2_1, xl_2_2, xl_1_0, xl_1_1]; done) | (exfalso; simp_all; done)))) d_Model_ends_140
                ·
                  refine X_aload_n d_Model_ends_116 rfl rfl ?_
                  refine X_getI (v := (hGo S (wsp - wsp / 10 * 10) 1 (sec).toNatClampNeg (tTry S n ((wsp / 10) - (wsp / 10) / 10 * 10) (wsp / 100) (mRow I i))) 6) fg_Model_186 (show xYf 59 = some sModel from rfl) rfl ((congrFun (xup_s _ _ _) _).trans (sc_31 _ _ _)) d_Model_ends_117 ?_
                  refine X_goto (tgt := 140) d_Model_ends_120 (by decide) ?_
                  exact X_iret rfl (congrArg (fun q => some (Value.int q)) (by subst hSS; first | (simp [aEnds, mEs_fall tTry_7, c_1, nI_cl (show i < 2 ^ 31 by omega), c_2, c_4, c_6, c_8, c_10, ok, c_13, c_14, xl_1_0, xl_1_1, xl_2_0, xl_2_1, xl_2_2, xl_3_0, xl_3_1, xl_3_2, xl_3_3]; done) | (exfalso; simp_all; done) | (clear hTs hR hK0 hK; simp_all [aEnds, mEs_fall tTry_7, nI_cl (show i < 2 ^ 31 by omega)]; done))) (xle_of (congrArg (xm G xYf) (by first | (subst hSS; simp [c_1, nI_cl (show i < 2 ^ 31 by omega), c_2, c_4, c_6, c_8, c_10, ok, c_13, c_14, xl_3_0, xl_3_1, xl_3_2, xl_3_3, xl_2_0, xl_2_1, xl_2_2, xl_1_0, xl_1_1]; done) | (exfalso; simp_all; done)))) d_Model_ends_140
              ·
                refine X_aload_n d_Model_ends_103 rfl rfl ?_
                refine X_getI (v := (hGo S (wsp - wsp / 10 * 10) 1 (sec).toNatClampNeg (tTry S n ((wsp / 10) - (wsp / 10) / 10 * 10) (wsp / 100) (mRow I i))) 2) fg_Model_140 (show xYf 59 = some sModel from rfl) rfl ((congrFun (xup_s _ _ _) _).trans (sc_29 _ _ _)) d_Model_ends_104 ?_
                refine X_goto (tgt := 140) d_Model_ends_107 (by decide) ?_
                exact X_iret rfl (congrArg (fun q => some (Value.int q)) (by subst hSS; first | (simp [aEnds, mEs_fall tTry_7, c_1, nI_cl (show i < 2 ^ 31 by omega), c_2, c_4, c_6, c_8, c_10, ok, c_13, xl_1_0, xl_1_1, xl_2_0, xl_2_1, xl_2_2, xl_3_0, xl_3_1, xl_3_2, xl_3_3]; done) | (exfalso; simp_all; done) | (clear hTs hR hK0 hK; simp_all [aEnds, mEs_fall tTry_7, nI_cl (show i < 2 ^ 31 by omega)]; done))) (xle_of (congrArg (xm G xYf) (by first | (subst hSS; simp [c_1, nI_cl (show i < 2 ^ 31 by omega), c_2, c_4, c_6, c_8, c_10, ok, c_13, xl_3_0, xl_3_1, xl_3_2, xl_3_3, xl_2_0, xl_2_1, xl_2_2, xl_1_0, xl_1_1]; done) | (exfalso; simp_all; done)))) d_Model_ends_140
  ·
    refine X_ldc cs_Model_156 d_Model_ends_8 ?_
    exact X_iret rfl (congrArg (fun q => some (Value.int q)) (by subst hSS; first | (simp [aEnds, mEs_fall tTry_7, c_1, xl_1_0, xl_1_1, xl_2_0, xl_2_1, xl_2_2, xl_3_0, xl_3_1, xl_3_2, xl_3_3]; done) | (exfalso; simp_all; done) | (clear hTs hR hK0 hK; simp_all [aEnds, mEs_fall tTry_7]; done))) (xle_of (congrArg (xm G xYf) (by first | (subst hSS; simp [c_1, xl_3_0, xl_3_1, xl_3_2, xl_3_3, xl_2_0, xl_2_1, xl_2_2, xl_1_0, xl_1_1]; done) | (exfalso; simp_all; done)))) d_Model_ends_10
