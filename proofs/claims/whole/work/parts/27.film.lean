theorem hGo_succ (L : xSay) (p e : Int32) : ∀ (k : Nat) (f : Nat → Int32), hGo L p e (k + 1) f = hStep L p e (hGo L p e k f)
  | 0, _ => rfl
  | k + 1, f => by rw [hGo, hGo_succ L p e k (hStep L p e f)]; rfl
def flR (L : xSay) (p : Int32) (f g : Nat → Int32) (j : Nat) : Nat → Int32 := fun x => if x < j then hGo L p 1 (x + 1) f 6 else g x
theorem flR_s (L : xSay) (p : Int32) (f g : Nat → Int32) (j : Nat) : xup (flR L p f g j) j (hGo L p 1 (j + 1) f 6) = flR L p f g (j + 1) := by
  funext x
  by_cases h : x = j
  · subst h; rw [xup_s, flR, if_pos (by omega)]
  · rw [xup_n _ _ h, flR, flR]
    by_cases h2 : x < j
    · rw [if_pos h2, if_pos (by omega)]
    · rw [if_neg h2, if_neg (by omega)]
theorem flR_0 (L : xSay) (p : Int32) (f g : Nat → Int32) : flR L p f g 0 = g := by funext x; simp [flR]
theorem k_Sheet_put (l : Launch) (G : xG) {d : Nat} (nn : Nat) (Y : xY) (I : xI) (hd : 2 ≤ d) (s : Nat) (hs : Y s = some (sSheet s)) (hs1 : Y (s + 1) = some (sInts 40)) (n i : Nat) (h1 : I s 1 = 2) (h2 : I s 2 = nI n) (hi : i < n) (hn : n ≤ 40) (v : Int32) (g : Nat → Int32) (hg : I (s + 1) = g) : XM l G d y_Sheet_put b_Sheet_put 3 (none) 0 0 xK0 [.ref (xg G s), .int (nI i), .int v] nn (xm G Y I) none nn (xm G Y (xup I (s + 1) (xup g i v))) := by
  have q := c_Sheet_put l G nn Y I hd s hs hs1 (nI i) v
  have h : shHas (I s) (nI i) = true := by
    simp only [shHas, h2, Bool.and_eq_true, decide_eq_true_eq]
    exact ⟨⟨nI_pos' (by omega), nI_lt hi (by omega)⟩, show nI i < nI 40 from nI_lt (by omega) (by decide)⟩
  rw [shPut, if_pos h, nI_cl (by omega), shNar, h1, if_neg (by decide), if_neg (by decide), xw_is, hg] at q
  exact q
def Q_X_film (l : Launch) (G : xG) (d nn : Nat) (I : xI) (ln : Nat) (S : Nat → xSay) (q : Nat) (n sp : Int32) (T : Nat) (f g : Nat → Int32) (j : Nat) : Prop := XW l G (xR d 0 0) y_X_film b_X_film 8 (some .int) xK0 (xZ G nn (xm G xYf (xup I (51 + 2 * q + 1) (flR (S ln) (sp - sp / 10 * 10) f g (T)))) (some (.int (nI T))) 0 0) nn (xm G (xup xYf 3 (some sHead)) (xup (xup I (51 + 2 * q + 1) (flR (S ln) (sp - sp / 10 * 10) f g (j))) 3 (hGo (S ln) (sp - sp / 10 * 10) 1 j f))) 0 0 87 [(0, .ref (xg G 0)), (3, .int n), (4, .int sp), (5, .int (nI T)), (6, .ref (xg G (51 + 2 * q))), (7, .int (nI j))] []
theorem w_X_film (l : Launch) (G : xG) {d : Nat} (nn : Nat) (I : xI) (hd : 10 ≤ d) (hc tc ln : Nat) (S : Nat → xSay) (hK : cOK I hc tc ln S) (q : Nat) (hq : q < 4) (T : Nat) (hT4 : T ≤ 40) (hs1 : I (51 + 2 * q) 1 = 2) (hs2 : I (51 + 2 * q) 2 = nI T) (n sp : Int32) (f g : Nat → Int32) (hf : hOK f) (j : Nat) (hj : j ≤ T) (ih : j < T → Q_X_film l G d nn I ln S q n sp T f g (j + 1)) : Q_X_film l G d nn I ln S q n sp T f g j := by
  obtain ⟨⟨h10, h5⟩, ⟨h11, h6⟩, ⟨h12, hl⟩, hTs, hR⟩ := id hK
  unfold Q_X_film
  refine X_iload d_X_film_87 rfl ?_
  refine X_iload d_X_film_89 rfl ?_
  refine X_icmp_ge (tgt := 131) d_X_film_91 (by decide) (fun c_1 => ?_) (fun c_1 => ?_)
  ·
    refine X_iload d_X_film_131 rfl ?_
    have hdone := nI_done hj (by omega) c_1
    subst hdone
    exact X_iret rfl rfl (xle_3 (fun k hk => by simp only [xup_n _ _ hk])) d_X_film_133
  ·
    have hlt := nI_more hj (by omega) c_1
    refine X_aload_n d_X_film_94 rfl rfl ?_
    refine X_getR (r := 3) fg_X_19 (y0 (xYok_3 xYok_f _)) rfl d_X_film_95 ?_
    refine X_aload_n d_X_film_98 rfl rfl ?_
    refine X_callV (v := .ref (xg G (27 + 4 * ln))) (rest := [.ref (xg G 3)]) (c_X_law l G nn (xup xYf 3 (some sHead)) (xup (xup I (51 + 2 * q + 1) (flR (S ln) (sp - sp / 10 * 10) f g j)) 3 (hGo (S ln) (sp - sp / 10 * 10) 1 j f)) (by omega) (xYok_3 xYok_f _) ln (by omega) ((congrFun (xup_n _ _ (by decide)) _).trans ((congrFun (xup_n _ _ (by omega)) _).trans (h12)))) lk_X_law ml_X_120 (xm_obj (y0 (xYok_3 xYok_f _))) rfl rfl (Nat.le_of_ble_eq_true rfl) (xRok (d' := d - 1) (by omega) (by decide)) ⟨Nat.le_refl _, Nat.le_refl _⟩ d_X_film_99 rfl ?_
    refine X_iload d_X_film_102 rfl ?_
    refine X_bipush (v := 10) d_X_film_104 rfl ?_
    refine X_irem d_X_film_106 (by decide) ?_
    refine X_iconst (v := 1) d_X_film_107 rfl ?_
    refine X_callVv (rest := []) (k_Head_step l G nn (xup xYf 3 (some sHead)) (xup (xup I (51 + 2 * q + 1) (flR (S ln) (sp - sp / 10 * 10) f g j)) 3 (hGo (S ln) (sp - sp / 10 * 10) 1 j f)) (by omega) 3 (show (xup xYf 3 (some sHead)) 3 = some sHead from rfl) (27 + 4 * ln) (S ln) (xTx_up (xTx_upA (xTx_Y (xYok_3 xYok_f _) (show ln < 6 by omega) (hTs ln hl)) (by omega) (by omega) (by omega)) (show (xup xYf 3 (some sHead)) 3 = some sHead from rfl)) (sp - sp / 10 * 10) 1 (hGo (S ln) (sp - sp / 10 * 10) 1 j f) (xup_s _ _ _)) lk_Head_step ml_X_271 (xm_obj (show (xup xYf 3 (some sHead)) 3 = some sHead from rfl)) rfl rfl (Nat.le_of_ble_eq_true rfl) (xRok (d' := d - 1) (by omega) (by decide)) ⟨Nat.le_refl _, Nat.le_refl _⟩ d_X_film_108 rfl ?_
    rw [xup_up]
    refine X_aload d_X_film_111 rfl ?_
    refine X_iload d_X_film_113 rfl ?_
    refine X_aload_n d_X_film_115 rfl rfl ?_
    refine X_getR (r := 3) fg_X_19 (y0 (xYok_3 xYok_f _)) rfl d_X_film_116 ?_
    refine X_getI (v := (hStep (S ln) (sp - sp / 10 * 10) 1 (hGo (S ln) (sp - sp / 10 * 10) 1 j f)) 6) fg_X_159 (show (xup xYf 3 (some sHead)) 3 = some sHead from rfl) rfl (congrFun (xup_s _ _ _) _) d_X_film_119 ?_
    refine X_callVv (rest := []) (k_Sheet_put l G nn (xup xYf 3 (some sHead)) (xup (xup I (51 + 2 * q + 1) (flR (S ln) (sp - sp / 10 * 10) f g j)) 3 (hStep (S ln) (sp - sp / 10 * 10) 1 (hGo (S ln) (sp - sp / 10 * 10) 1 j f))) (by omega) (51 + 2 * q) (yS (xYok_3 xYok_f _) (show q < 4 by omega)).1 (yS (xYok_3 xYok_f _) (show q < 4 by omega)).2 T j ((congrFun (xup_n _ _ (by omega)) _).trans ((congrFun (xup_n _ _ (by omega)) _).trans (hs1))) ((congrFun (xup_n _ _ (by omega)) _).trans ((congrFun (xup_n _ _ (by omega)) _).trans (hs2))) (by omega) (by omega) ((hStep (S ln) (sp - sp / 10 * 10) 1 (hGo (S ln) (sp - sp / 10 * 10) 1 j f)) 6) (flR (S ln) (sp - sp / 10 * 10) f g j) ((xup_n _ _ (by omega)).trans (xup_s _ _ _))) lk_Sheet_put ml_X_274 (xm_obj (yS (xYok_3 xYok_f _) (show q < 4 by omega)).1) rfl rfl (Nat.le_of_ble_eq_true rfl) (xRok (d' := d - 1) (by omega) (by decide)) ⟨Nat.le_refl _, Nat.le_refl _⟩ d_X_film_122 rfl ?_
    rw [xup_aba _ _ _ _ (show (3 : Nat) ≠ 51 + 2 * q + 1 from (by omega))]
    refine X_iinc d_X_film_125 rfl (v := (nI j) + 1) rfl (by decide) [1, 2, 3, 4, 5, 0] (L' := [(0, .ref (xg G 0)), (3, .int n), (4, .int sp), (5, .int (nI T)), (6, .ref (xg G (51 + 2 * q))), (7, .int ((nI j) + 1))]) rfl ?_
    refine X_goto (tgt := 87) d_X_film_128 (by decide) ?_
    have hlt := nI_more hj (by omega) c_1
    have key := ih hlt
    unfold Q_X_film at key
    rw [nI_1, ← hGo_succ, flR_s]
    exact key
theorem t_X_film (l : Launch) (G : xG) {d : Nat} (nn : Nat) (I : xI) (hd : 10 ≤ d) (hc tc ln : Nat) (S : Nat → xSay) (hK : cOK I hc tc ln S) (q : Nat) (hq : q < 4) (T : Nat) (hT4 : T ≤ 40) (hs1 : I (51 + 2 * q) 1 = 2) (hs2 : I (51 + 2 * q) 2 = nI T) (i : Nat) (hi : i < 5) (n sp : Int32) (hn : ¬ xabs n < 0) (g : Nat → Int32) : XW l G (xR d 0 0) y_X_film b_X_film 8 (some .int) xK0 (xZ G nn (xm G xYf (xup I (51 + 2 * q + 1) (flR (S ln) (sp - sp / 10 * 10) (hSpin (S ln) n (sp / 10) (hStd (I (17 + 2 * i)))) g T))) (some (.int (nI T))) 0 0) nn (xm G xYf (xup I (51 + 2 * q + 1) g)) 0 0 65 [(0, .ref (xg G 0)), (1, .int (nI q)), (2, .int (nI i)), (3, .int n), (4, .int sp), (5, .int (nI T)), (6, .ref (xg G (51 + 2 * q)))] [] := by
  obtain ⟨⟨h10, h5⟩, ⟨h11, h6⟩, ⟨h12, hl⟩, hTs, hR⟩ := id hK
  refine X_knowH (a := 3) rfl (fun f3 hf3 => ?_)
  refine X_aload_n d_X_film_65 rfl rfl ?_
  refine X_aload_n d_X_film_66 rfl rfl ?_
  refine X_iload_n d_X_film_67 rfl rfl ?_
  refine X_callV (v := .ref (xg G (17 + 2 * i))) (rest := [.ref (xg G 0)]) (c_X_headAt l G nn (xup xYf 3 (some sHead)) (xup (xup I (51 + 2 * q + 1) g) 3 f3) (by omega) (xYok_3 xYok_f _) i (by omega)) lk_X_headAt ml_X_124 (xm_obj (y0 (xYok_3 xYok_f _))) rfl rfl (Nat.le_of_ble_eq_true rfl) (xRok (d' := d - 1) (by omega) (by decide)) ⟨Nat.le_refl _, Nat.le_refl _⟩ d_X_film_68 rfl ?_
  refine X_aload_n d_X_film_71 rfl rfl ?_
  refine X_callV (v := .ref (xg G (27 + 4 * ln))) (rest := [.ref (xg G (17 + 2 * i)), .ref (xg G 0)]) (c_X_law l G nn (xup xYf 3 (some sHead)) (xup (xup I (51 + 2 * q + 1) g) 3 f3) (by omega) (xYok_3 xYok_f _) ln (by omega) ((congrFun (xup_n _ _ (by decide)) _).trans ((congrFun (xup_n _ _ (by omega)) _).trans (h12)))) lk_X_law ml_X_120 (xm_obj (y0 (xYok_3 xYok_f _))) rfl rfl (Nat.le_of_ble_eq_true rfl) (xRok (d' := d - 1) (by omega) (by decide)) ⟨Nat.le_refl _, Nat.le_refl _⟩ d_X_film_72 rfl ?_
  refine X_iload_n d_X_film_75 rfl rfl ?_
  refine X_iload d_X_film_76 rfl ?_
  refine X_bipush (v := 10) d_X_film_78 rfl ?_
  refine X_idiv d_X_film_80 (by decide) ?_
  refine X_callVv (rest := []) (k_X_thinkTurned l G nn (xup xYf 3 (some sHead)) (xup (xup I (51 + 2 * q + 1) g) 3 f3) (by omega) (xYok_3 xYok_f _) (show (xup xYf 3 (some sHead)) 3 = some sHead from rfl) (17 + 2 * i) (yH (xYok_3 xYok_f _) (show i < 5 by omega)) (by omega) (27 + 4 * ln) (S ln) (xTx_up (xTx_upA (xTx_Y (xYok_3 xYok_f _) (show ln < 6 by omega) (hTs ln hl)) (by omega) (by omega) (by omega)) (show (xup xYf 3 (some sHead)) 3 = some sHead from rfl)) n (sp / 10) hn f3 (I (17 + 2 * i)) (xup_s _ _ _) ((xup_n _ _ (by omega)).trans (xup_n _ _ (by omega))) (hR _ (by omega)) hf3) lk_X_thinkTurned ml_X_201 (xm_obj (y0 (xYok_3 xYok_f _))) rfl rfl (Nat.le_of_ble_eq_true rfl) (xRok (d' := d - 1) (by omega) (by decide)) ⟨Nat.le_refl _, Nat.le_refl _⟩ d_X_film_81 rfl ?_
  rw [xup_up]
  refine X_iconst (v := 0) d_X_film_84 rfl ?_
  refine X_istore d_X_film_85 (by decide) [1, 2, 3, 4, 5, 6, 7, 0] (L' := [(0, .ref (xg G 0)), (1, .int (nI q)), (2, .int (nI i)), (3, .int n), (4, .int sp), (5, .int (nI T)), (6, .ref (xg G (51 + 2 * q))), (7, .int 0)]) rfl ?_
  refine X_sub [0, 3, 4, 5, 6, 7] (L' := [(0, .ref (xg G 0)), (3, .int n), (4, .int sp), (5, .int (nI T)), (6, .ref (xg G (51 + 2 * q))), (7, .int 0)]) rfl ?_
  have hq0 := xloop (T := T) (fun j hj ih => w_X_film (d := d) l G nn I (by omega) hc tc ln S hK q hq T hT4 hs1 hs2 n sp (hSpin (S ln) n (sp / 10) (hStd (I (17 + 2 * i)))) g (hOK_spin _ _ _ (hOK_sd (hR _ (by omega)))) j hj ih) 0 (Nat.zero_le _)
  unfold Q_X_film at hq0
  rw [flR_0] at hq0
  exact hq0
def okFilm (hc : Nat) (s h n sp sec : Int32) : Bool := xin s 0 3 && xin h 0 (nI hc - 1) && xin n (-40) 40 && xsp sp && xin sec 0 40
def aFilm (hc : Nat) (s h n sp sec : Int32) : Int32 := if xin s 0 3 = true then (if xin h 0 (nI hc - 1) = true then (if xin n (-40) 40 = true ∧ xsp sp = true ∧ xin sec 0 40 = true then sec else -7) else -5) else -2
def mFilm (I : xI) (hc : Nat) (L : xSay) (R : Nat → Nat → Int32) (s h n sp sec : Int32) : xI := if okFilm hc s h n sp sec = true then xup (xw (xw I (51 + 2 * s.toNatClampNeg) 1 2) (51 + 2 * s.toNatClampNeg) 2 (xbd sec 0 40)) ((51 + 2 * s.toNatClampNeg) + 1) (flR L (sp - sp / 10 * 10) (hSpin L n (sp / 10) (hStd (R h.toNatClampNeg))) (zrow 40 (I ((51 + 2 * s.toNatClampNeg) + 1))) sec.toNatClampNeg) else I
theorem cOK_keep {I J : xI} {hc tc ln : Nat} {S : Nat → xSay} (h : cOK I hc tc ln S) (hJ : ∀ a, a < 51 → J a = I a) : cOK J hc tc ln S := by
  obtain ⟨h1, h2, h3, h4, h5⟩ := h
  refine ⟨by rw [hJ 0 (by decide)]; exact h1, by rw [hJ 0 (by decide)]; exact h2, by rw [hJ 0 (by decide)]; exact h3, fun j hj => ?_, fun i hi => by rw [hJ _ (by omega)]; exact h5 i hi⟩
  have := h2.2
  exact xTx_kept (h4 j hj) (hJ _ (by omega)) (hJ _ (by omega)) (hJ _ (by omega))
theorem c_X_film (l : Launch) (G : xG) {d : Nat} (nn : Nat) (I : xI) (hd : 10 ≤ d) (hc tc ln : Nat) (S : Nat → xSay) (hK : cOK I hc tc ln S) (s h n sp sec : Int32) : XM l G d y_X_film b_X_film 8 (some .int) 0 0 xK0 [.ref (xg G 0), .int s, .int h, .int n, .int sp, .int sec] nn (xm G xYf I) (some (.int (aFilm hc s h n sp sec))) nn (xm G xYf (mFilm I hc (S ln) (fun i => I (17 + 2 * i)) s h n sp sec)) := by
  obtain ⟨⟨h10, h5⟩, ⟨h11, h6⟩, ⟨h12, hl⟩, hTs, hR⟩ := id hK
  refine XM.of (by decide) (Nat.le_of_ble_eq_true rfl) (L := [(0, .ref (xg G 0)), (1, .int s), (2, .int h), (3, .int n), (4, .int sp), (5, .int sec)]) rfl ?_
  refine X_iload_n d_X_film_0 rfl rfl ?_
  refine X_callS (v := .int (xb (xin s 0 3))) (rest := []) (c_X_isSheet l G nn _ (by omega) s) lk_X_isSheet ml_X_267 rfl (Nat.le_of_ble_eq_true rfl) (xRok (d' := d - 1) (by omega) (by decide)) ⟨Nat.le_refl _, Nat.le_refl _⟩ d_X_film_1 rfl ?_
  refine X_ifb_ne (tgt := 10) d_X_film_4 (by decide) (fun c_1 => ?_) (fun c_1 => ?_)
  ·
    obtain ⟨q, hq, rfl⟩ := cTop (n := 3) (by decide) c_1
    refine X_aload_n d_X_film_10 rfl rfl ?_
    refine X_iload_n d_X_film_11 rfl rfl ?_
    refine X_callV (v := .int (xb (xin h 0 (nI hc - 1)))) (rest := []) (c_X_isHead l G nn xYf I (by omega) xYok_f h (nI hc) (h10)) lk_X_isHead ml_X_113 (xm_obj (y0 xYok_f)) rfl rfl (Nat.le_of_ble_eq_true rfl) (xRok (d' := d - 1) (by omega) (by decide)) ⟨Nat.le_refl _, Nat.le_refl _⟩ d_X_film_12 rfl ?_
    refine X_ifb_ne (tgt := 21) d_X_film_15 (by decide) (fun c_2 => ?_) (fun c_2 => ?_)
    ·
      obtain ⟨i, hi, rfl⟩ := cHead h5 c_2
      refine X_iload_n d_X_film_21 rfl rfl ?_
      refine X_callS (v := .int (xb (xin n (-40) 40))) (rest := []) (c_X_isTurns l G nn _ (by omega) n) lk_X_isTurns ml_X_169 rfl (Nat.le_of_ble_eq_true rfl) (xRok (d' := d - 1) (by omega) (by decide)) ⟨Nat.le_refl _, Nat.le_refl _⟩ d_X_film_22 rfl ?_
      refine X_ifb_eq (tgt := 47) d_X_film_25 (by decide) (fun c_3 => ?_) (fun c_3 => ?_)
      ·
        refine X_bipush (v := -7) d_X_film_47 rfl ?_
        exact X_iret rfl (congrArg (fun q => some (Value.int q)) (by first | (simp [aFilm, c_1, nI_cl (show q < 2 ^ 31 by omega), c_2, nI_cl (show i < 2 ^ 31 by omega), c_3, xl_1_0, xl_1_1, xl_2_0, xl_2_1, xl_2_2, xl_3_0, xl_3_1, xl_3_2, xl_3_3]; done) | (exfalso; simp_all; done) | (clear hTs hR hK; simp_all [aFilm, nI_cl (show q < 2 ^ 31 by omega), nI_cl (show i < 2 ^ 31 by omega)]; done))) (xle_of (congrArg (xm G xYf) (by first | (simp [mFilm, okFilm, c_1, nI_cl (show q < 2 ^ 31 by omega), c_2, nI_cl (show i < 2 ^ 31 by omega), c_3]; done) | (exfalso; simp_all; done)))) d_X_film_49
      ·
        refine X_iload d_X_film_28 rfl ?_
        refine X_callS (v := .int (xb (xsp sp))) (rest := []) (c_X_isSpeedPace l G nn _ (by omega) sp) lk_X_isSpeedPace ml_X_241 rfl (Nat.le_of_ble_eq_true rfl) (xRok (d' := d - 1) (by omega) (by decide)) ⟨Nat.le_refl _, Nat.le_refl _⟩ d_X_film_30 rfl ?_
        refine X_ifb_eq (tgt := 47) d_X_film_33 (by decide) (fun c_4 => ?_) (fun c_4 => ?_)
        ·
          refine X_bipush (v := -7) d_X_film_47 rfl ?_
          exact X_iret rfl (congrArg (fun q => some (Value.int q)) (by first | (simp [aFilm, c_1, nI_cl (show q < 2 ^ 31 by omega), c_2, nI_cl (show i < 2 ^ 31 by omega), c_3, c_4, xl_1_0, xl_1_1, xl_2_0, xl_2_1, xl_2_2, xl_3_0, xl_3_1, xl_3_2, xl_3_3]; done) | (exfalso; simp_all; done) | (clear hTs hR hK; simp_all [aFilm, nI_cl (show q < 2 ^ 31 by omega), nI_cl (show i < 2 ^ 31 by omega)]; done))) (xle_of (congrArg (xm G xYf) (by first | (simp [mFilm, okFilm, c_1, nI_cl (show q < 2 ^ 31 by omega), c_2, nI_cl (show i < 2 ^ 31 by omega), c_3, c_4]; done) | (exfalso; simp_all; done)))) d_X_film_49
        ·
          refine X_iload d_X_film_36 rfl ?_
          refine X_iconst (v := 0) d_X_film_38 rfl ?_
          refine X_bipush (v := 40) d_X_film_39 rfl ?_
          refine X_callS (v := .int (xb (xin sec 0 40))) (rest := []) (c_X_within l G nn _ (by omega) sec 0 40) lk_X_within ml_X_105 rfl (Nat.le_of_ble_eq_true rfl) (xRok (d' := d - 1) (by omega) (by decide)) ⟨Nat.le_refl _, Nat.le_refl _⟩ d_X_film_41 rfl ?_
          refine X_ifb_ne (tgt := 50) d_X_film_44 (by decide) (fun c_5 => ?_) (fun c_5 => ?_)
          ·
            refine X_aload_n d_X_film_50 rfl rfl ?_
            refine X_iload_n d_X_film_51 rfl rfl ?_
            refine X_callV (v := .ref (xg G (51 + 2 * q))) (rest := []) (c_X_sheetAt l G nn xYf I (by omega) xYok_f q (by omega)) lk_X_sheetAt ml_X_256 (xm_obj (y0 xYok_f)) rfl rfl (Nat.le_of_ble_eq_true rfl) (xRok (d' := d - 1) (by omega) (by decide)) ⟨Nat.le_refl _, Nat.le_refl _⟩ d_X_film_52 rfl ?_
            refine X_astore d_X_film_55 (by decide) [1, 2, 3, 4, 5, 6, 0] (L' := [(0, .ref (xg G 0)), (1, .int (nI q)), (2, .int (nI i)), (3, .int n), (4, .int sp), (5, .int sec), (6, .ref (xg G (51 + 2 * q)))]) rfl ?_
            refine X_aload d_X_film_57 rfl ?_
            refine X_iconst (v := 2) d_X_film_59 rfl ?_
            refine X_iload d_X_film_60 rfl ?_
            refine X_callVv (rest := []) (c_Sheet_begin l G nn xYf I (by omega) (51 + 2 * q) (yS xYok_f (show q < 4 by omega)).1 (yS xYok_f (show q < 4 by omega)).2 2 sec) lk_Sheet_begin ml_X_270 (xm_obj (yS xYok_f (show q < 4 by omega)).1) rfl rfl (Nat.le_of_ble_eq_true rfl) (xRok (d' := d - 1) (by omega) (by decide)) ⟨Nat.le_refl _, Nat.le_refl _⟩ d_X_film_62 rfl ?_
            obtain ⟨T, hT4, rfl⟩ := cTop (n := 40) (by decide) c_5
            have hx : xbd (nI T) 0 40 = nI T := by unfold xbd; rw [if_neg (nI_pos (by omega)), if_neg (show ¬ (40 : Int32) < nI T from (show ¬ nI 40 < nI T from nI_nlt hT4 (by decide)))]
            have ht := t_X_film l G nn (xw (xw I (51 + 2 * q) 1 2) (51 + 2 * q) 2 (xbd (nI T) 0 40)) hd hc tc ln S (cOK_keep hK (fun a ha => by rw [xw_row _ _ _ (by omega), xw_row _ _ _ (by omega)])) q (by omega) T hT4 (by rw [xw_k _ _ _ (by decide), xw_s]) (by rw [xw_s, hx]) i (by omega) n sp (xin_abs c_3) (zrow 40 (I (51 + 2 * q + 1)))
            rw [xw_row _ _ _ (show 17 + 2 * i ≠ 51 + 2 * q by omega), xw_row _ _ _ (show 17 + 2 * i ≠ 51 + 2 * q by omega)] at ht
            have e1 : aFilm hc (nI q) (nI i) n sp (nI T) = nI T := by simp [aFilm, c_1, c_2, c_3, c_4, c_5]
            have e2 : mFilm I hc (S ln) (fun i => I (17 + 2 * i)) (nI q) (nI i) n sp (nI T) = xup (xw (xw I (51 + 2 * q) 1 2) (51 + 2 * q) 2 (xbd (nI T) 0 40)) (51 + 2 * q + 1) (flR (S ln) (sp - sp / 10 * 10) (hSpin (S ln) n (sp / 10) (hStd (I (17 + 2 * i)))) (zrow 40 (I (51 + 2 * q + 1))) T) := by simp [mFilm, okFilm, c_1, c_2, c_3, c_4, c_5, nI_cl (show q < 2 ^ 31 by omega), nI_cl (show i < 2 ^ 31 by omega), nI_cl (show T < 2 ^ 31 by omega)]
            rw [e1, e2]
            exact ht
          ·
            refine X_bipush (v := -7) d_X_film_47 rfl ?_
            exact X_iret rfl (congrArg (fun q => some (Value.int q)) (by first | (simp [aFilm, c_1, nI_cl (show q < 2 ^ 31 by omega), c_2, nI_cl (show i < 2 ^ 31 by omega), c_3, c_4, c_5, xl_1_0, xl_1_1, xl_2_0, xl_2_1, xl_2_2, xl_3_0, xl_3_1, xl_3_2, xl_3_3]; done) | (exfalso; simp_all; done) | (clear hTs hR hK; simp_all [aFilm, nI_cl (show q < 2 ^ 31 by omega), nI_cl (show i < 2 ^ 31 by omega)]; done))) (xle_of (congrArg (xm G xYf) (by first | (simp [mFilm, okFilm, c_1, nI_cl (show q < 2 ^ 31 by omega), c_2, nI_cl (show i < 2 ^ 31 by omega), c_3, c_4, c_5]; done) | (exfalso; simp_all; done)))) d_X_film_49
    ·
      refine X_bipush (v := -5) d_X_film_18 rfl ?_
      exact X_iret rfl (congrArg (fun q => some (Value.int q)) (by first | (simp [aFilm, c_1, nI_cl (show q < 2 ^ 31 by omega), c_2, xl_1_0, xl_1_1, xl_2_0, xl_2_1, xl_2_2, xl_3_0, xl_3_1, xl_3_2, xl_3_3]; done) | (exfalso; simp_all; done) | (clear hTs hR hK; simp_all [aFilm, nI_cl (show q < 2 ^ 31 by omega)]; done))) (xle_of (congrArg (xm G xYf) (by first | (simp [mFilm, okFilm, c_1, nI_cl (show q < 2 ^ 31 by omega), c_2]; done) | (exfalso; simp_all; done)))) d_X_film_20
  ·
    refine X_bipush (v := -2) d_X_film_7 rfl ?_
    exact X_iret rfl (congrArg (fun q => some (Value.int q)) (by first | (simp [aFilm, c_1, xl_1_0, xl_1_1, xl_2_0, xl_2_1, xl_2_2, xl_3_0, xl_3_1, xl_3_2, xl_3_3]; done) | (exfalso; simp_all; done) | (clear hTs hR hK; simp_all [aFilm]; done))) (xle_of (congrArg (xm G xYf) (by first | (simp [mFilm, okFilm, c_1]; done) | (exfalso; simp_all; done)))) d_X_film_9
