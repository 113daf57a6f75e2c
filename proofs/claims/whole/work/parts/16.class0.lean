def hZ (f : Nat → Int32) : Prop := ∀ j, 8 ≤ j → f j = 0
def hOK (f : Nat → Int32) : Prop := (f 7 = 0 ∨ f 7 = 1) ∧ hZ f
theorem hBe_eq {f g : Nat → Int32} (hf : hZ f) (hg : hZ g) : hBe g f = g := by
  funext j
  unfold hBe
  rcases Nat.lt_or_ge j 8 with q | q
  · have : j = 0 ∨ j = 1 ∨ j = 2 ∨ j = 3 ∨ j = 4 ∨ j = 5 ∨ j = 6 ∨ j = 7 := by omega
    rcases this with rfl | rfl | rfl | rfl | rfl | rfl | rfl | rfl <;> simp [xup]
  · rw [xup_n _ _ (show j ≠ 7 by omega), xup_n _ _ (show j ≠ 6 by omega), xup_n _ _ (show j ≠ 5 by omega), xup_n _ _ (show j ≠ 4 by omega), xup_n _ _ (show j ≠ 3 by omega), xup_n _ _ (show j ≠ 2 by omega), xup_n _ _ (show j ≠ 1 by omega), xup_n _ _ (show j ≠ 0 by omega), hf j q, hg j q]
theorem hZ_up {f : Nat → Int32} (h : hZ f) {k : Nat} (hk : k < 8) (v : Int32) : hZ (xup f k v) := fun j hj => (xup_n _ _ (by omega)).trans (h j hj)
theorem hOK_std {f : Nat → Int32} (h : hZ f) : hOK (hStd f) := ⟨Or.inl (xup_s _ _ _), hZ_up (hZ_up (hZ_up h (by decide) _) (by decide) _) (by decide) _⟩
theorem hOK_up {f : Nat → Int32} (h : hOK f) {k : Nat} (hk : k < 7) (v : Int32) : hOK (xup f k v) := ⟨by rw [xup_n _ _ (show 7 ≠ k by omega)]; exact h.1, hZ_up h.2 (by omega) v⟩
theorem hOK_fade (S : xSay) (e : Int32) {f : Nat → Int32} (h : hOK f) : hOK (hFade S e f) := hOK_up h (by decide) _
theorem hOK_spin1 (S : xSay) (sp sd : Int32) {f : Nat → Int32} (h : hOK f) : hOK (hSpin1 S sp sd f) := hOK_fade S 1 (hOK_up h (by decide) _)
theorem hOK_spinN (S : xSay) (sp sd : Int32) {f : Nat → Int32} (h : hOK f) : ∀ k, hOK (hSpinN S sp sd k f)
  | 0 => h
  | k + 1 => hOK_spin1 S sp sd (hOK_spinN S sp sd h k)
theorem hOK_spin (S : xSay) (n sp : Int32) {f : Nat → Int32} (h : hOK f) : hOK (hSpin S n sp f) := hOK_spinN S sp _ h _
theorem hOK_ling (S : xSay) (e : Int32) {f : Nat → Int32} (h : hOK f) : ∀ k, hOK (hLing S e k f)
  | 0 => h
  | k + 1 => hOK_fade S e (hOK_ling S e h k)
theorem hOK_step (S : xSay) (p e : Int32) {f : Nat → Int32} (h : hOK f) : hOK (hStep S p e f) := by
  refine ⟨hStep_7 S p e f h.1, ?_⟩
  unfold hStep
  split
  · split
    · exact hZ_up h.2 (by decide) _
    · exact hZ_up (hZ_up (hZ_up h.2 (by decide) _) (by decide) _) (by decide) _
  · exact hZ_up h.2 (by decide) _
theorem hOK_go (S : xSay) (p e : Int32) : ∀ (k : Nat) {f : Nat → Int32}, hOK f → hOK (hGo S p e k f)
  | 0, _, h => h
  | k + 1, _, h => hOK_go S p e k (hOK_step S p e h)
theorem xin_iff {v lo hi : Int32} : xin v lo hi = true ↔ lo ≤ v ∧ v ≤ hi := by simp [xin]
theorem cHead {h : Int32} {hc : Nat} (h5 : hc ≤ 5) (hb : xin h 0 (nI hc - 1) = true) : ∃ i, i < hc ∧ h = nI i := by
  rw [xin_iff] at hb
  obtain ⟨i, hi, rfl⟩ := nI_of (Int32.not_lt.mpr hb.1)
  refine ⟨i, ?_, rfl⟩
  match hc, h5 with
  | 0, _ => exact absurd (Int32.le_trans hb.1 hb.2) (by decide)
  | hc + 1, _ => rw [nI_pred] at hb; have := (nI_leI hi (by omega)).mp hb.2; omega
theorem cTop {h : Int32} {n : Nat} (hn : n < 1000) (hb : xin h 0 (nI n) = true) : ∃ i, i ≤ n ∧ h = nI i := by
  rw [xin_iff] at hb
  obtain ⟨i, hi, rfl⟩ := nI_of (Int32.not_lt.mpr hb.1)
  exact ⟨i, (nI_leI hi (by omega)).mp hb.2, rfl⟩
theorem xin_nn {v hi : Int32} (h : xin v 0 hi = true) : ¬ v < 0 := Int32.not_lt.mpr (xin_iff.mp h).1
theorem xin_abs {n : Int32} (h : xin n (-40) 40 = true) : ¬ xabs n < 0 := by
  rw [xin_iff] at h
  unfold xabs
  grind
theorem xTx_Y {Y : xY} {I : xI} {j : Nat} {S : xSay} (hY : xYok Y) (hj : j < 6) (h : xTx xYf I (27 + 4 * j) S) : xTx Y I (27 + 4 * j) S := ⟨yT hY hj, h.2⟩
/-- what the class' numbers are: hc HEADS, tc TEXTS, ln THE LAW, which say S -/
def cOK (I : xI) (hc tc ln : Nat) (S : Nat → xSay) : Prop := (I 0 10 = nI hc ∧ hc ≤ 5) ∧ (I 0 11 = nI tc ∧ tc ≤ 6) ∧ (I 0 12 = nI ln ∧ ln < tc) ∧ (∀ j, j < tc → xTx xYf I (27 + 4 * j) (S j)) ∧ ∀ i, i < 5 → hOK (I (17 + 2 * i))
theorem xle_3 {G : xG} {I J : xI} (h : ∀ k, k ≠ 3 → J k = I k) : xle (xm G (xup xYf 3 (some sHead)) J) (xm G xYf I) := by
  refine xle_fg fun k => ?_
  by_cases hk : k = 3
  · subst hk; exact Or.inr (Or.inr (Or.inl ⟨xup_s _ _ _, rfl⟩))
  · exact Or.inl ⟨(xup_n _ _ hk).symm, h k hk⟩
theorem xle_34 {G : xG} {I J : xI} (h : ∀ k, k ≠ 3 → k ≠ 4 → J k = I k) : xle (xm G (xup (xup xYf 3 (some sHead)) 4 (some sHead)) J) (xm G xYf I) := by
  refine xle_fg fun k => ?_
  by_cases hk : k = 3
  · subst hk; exact Or.inr (Or.inr (Or.inl ⟨rfl, rfl⟩))
  · by_cases hk4 : k = 4
    · subst hk4; exact Or.inr (Or.inr (Or.inl ⟨xup_s _ _ _, rfl⟩))
    · exact Or.inl ⟨((xup_n _ _ hk4).trans (xup_n _ _ hk)).symm, h k hk hk4⟩
theorem c_X_isHead (l : Launch) (G : xG) {d : Nat} (nn : Nat) (Y : xY) (I : xI) (hd : 2 ≤ d) (hY : xYok Y) (h v : Int32) (hv : I 0 10 = v) : XM l G d y_X_isHead b_X_isHead 2 (some .boolean) 0 0 xK0 [.ref (xg G 0), .int h] nn (xm G Y I) (some (.int (xb (xin h 0 (v - 1))))) nn (xm G Y (I)) := by
  refine XM.of (by decide) (Nat.le_of_ble_eq_true rfl) (L := [(0, .ref (xg G 0)), (1, .int h)]) rfl ?_
  refine X_iload_n d_X_isHead_0 rfl rfl ?_
  refine X_iconst (v := 0) d_X_isHead_1 rfl ?_
  refine X_aload_n d_X_isHead_2 rfl rfl ?_
  refine X_getI (v := v) fg_X_59 (y0 hY) rfl (hv) d_X_isHead_3 ?_
  refine X_iconst (v := 1) d_X_isHead_6 rfl ?_
  refine X_isub d_X_isHead_7 ?_
  refine X_callS (v := .int (xb (xin h 0 (v - 1)))) (rest := []) (c_X_within l G nn _ (by omega) h 0 (v - 1)) lk_X_within ml_X_105 rfl (Nat.le_of_ble_eq_true rfl) (xRok (d' := d - 1) (by omega) (by decide)) ⟨Nat.le_refl _, Nat.le_refl _⟩ d_X_isHead_8 rfl ?_
  exact X_zret rfl (xb_nar _) (congrArg (fun q => some (Value.int q)) (by rfl)) (xle_rf _) d_X_isHead_11
theorem c_X_think (l : Launch) (G : xG) {d : Nat} (nn : Nat) (Y : xY) (I : xI) (hd : 3 ≤ d) (hY : xYok Y) (h3 : Y 3 = some sHead) (o : Nat) (ho : Y o = some sHead) (hne : o ≠ 3) (hok : hOK (I o)) (hz : hZ (I 3)) : XM l G d y_X_think b_X_think 2 (none) 0 0 xK0 [.ref (xg G 0), .ref (xg G o)] nn (xm G Y I) (none) nn (xm G Y (xup I 3 (hStd (I o)))) := by
  refine XM.of (by decide) (Nat.le_of_ble_eq_true rfl) (L := [(0, .ref (xg G 0)), (1, .ref (xg G o))]) rfl ?_
  refine X_aload_n d_X_think_0 rfl rfl ?_
  refine X_getR (r := 3) fg_X_19 (y0 hY) rfl d_X_think_1 ?_
  refine X_aload_n d_X_think_4 rfl rfl ?_
  refine X_callVv (rest := []) (c_Head_become l G nn Y I (by omega) 3 h3 o ho hne hok.1) lk_Head_become ml_X_235 (xm_obj h3) rfl rfl (Nat.le_of_ble_eq_true rfl) (xRok (d' := d - 1) (by omega) (by decide)) ⟨Nat.le_refl _, Nat.le_refl _⟩ d_X_think_5 rfl ?_
  refine X_aload_n d_X_think_8 rfl rfl ?_
  refine X_getR (r := 3) fg_X_19 (y0 hY) rfl d_X_think_9 ?_
  refine X_callVv (rest := []) (c_Head_standAtStart l G nn Y (xup I 3 (hBe (I o) (I 3))) (by omega) 3 h3) lk_Head_standAtStart ml_X_195 (xm_obj h3) rfl rfl (Nat.le_of_ble_eq_true rfl) (xRok (d' := d - 1) (by omega) (by decide)) ⟨Nat.le_refl _, Nat.le_refl _⟩ d_X_think_12 rfl ?_
  exact X_vret rfl rfl (xle_of (congrArg (xm G Y) (by rw [xup_s, xup_up, hBe_eq hz hok.2]))) d_X_think_15
theorem c_X_thinkTurned (l : Launch) (G : xG) {d : Nat} (nn : Nat) (Y : xY) (I : xI) (hd : 9 ≤ d) (hY : xYok Y) (h3 : Y 3 = some sHead) (o : Nat) (ho : Y o = some sHead) (hne : o ≠ 3) (hok : hOK (I o)) (hz : hZ (I 3)) (t : Nat) (S : xSay) (hT : xTx Y I t S) (n speed : Int32) (hn : ¬ xabs n < 0) : XM l G d y_X_thinkTurned b_X_thinkTurned 5 (none) 0 0 xK0 [.ref (xg G 0), .ref (xg G o), .ref (xg G t), .int n, .int speed] nn (xm G Y I) (none) nn (xm G Y (xup I 3 (hSpin S n speed (hStd (I o))))) := by
  refine XM.of (by decide) (Nat.le_of_ble_eq_true rfl) (L := [(0, .ref (xg G 0)), (1, .ref (xg G o)), (2, .ref (xg G t)), (3, .int n), (4, .int speed)]) rfl ?_
  refine X_aload_n d_X_thinkTurned_0 rfl rfl ?_
  refine X_aload_n d_X_thinkTurned_1 rfl rfl ?_
  refine X_callVv (rest := []) (c_X_think l G nn Y I (by omega) hY h3 o ho hne hok hz) lk_X_think ml_X_205 (xm_obj (y0 hY)) rfl rfl (Nat.le_of_ble_eq_true rfl) (xRok (d' := d - 1) (by omega) (by decide)) ⟨Nat.le_refl _, Nat.le_refl _⟩ d_X_thinkTurned_2 rfl ?_
  refine X_aload_n d_X_thinkTurned_5 rfl rfl ?_
  refine X_getR (r := 3) fg_X_19 (y0 hY) rfl d_X_thinkTurned_6 ?_
  refine X_aload_n d_X_thinkTurned_9 rfl rfl ?_
  refine X_iload_n d_X_thinkTurned_10 rfl rfl ?_
  refine X_iload d_X_thinkTurned_11 rfl ?_
  refine X_callVv (rest := []) (c_Head_spin l G nn Y (xup I 3 (hStd (I o))) (by omega) 3 h3 t S (xTx_up hT h3) n speed (by assumption)) lk_Head_spin ml_X_175 (xm_obj h3) rfl rfl (Nat.le_of_ble_eq_true rfl) (xRok (d' := d - 1) (by omega) (by decide)) ⟨Nat.le_refl _, Nat.le_refl _⟩ d_X_thinkTurned_13 rfl ?_
  exact X_vret rfl rfl (xle_of (congrArg (xm G Y) (by simp only [xup_s, xup_up]))) d_X_thinkTurned_16
