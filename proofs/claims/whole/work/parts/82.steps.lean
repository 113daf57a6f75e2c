theorem mOK_cls {I J : xI} {hc tc ln : Nat} {S : Nat → xSay} (h : mOK I hc tc ln S) (ha : ∀ a, 59 ≤ a → J a = I a) : mOK J hc tc ln S :=
  mOK_of h (by rw [ha 59 (by decide)]; exact h.1.1) h.1.2 (by rw [ha 59 (by decide)]) (by rw [ha 59 (by decide)]; exact h.2.2.1.1) h.2.2.1.2 (ha _ (by decide)) (ha _ (by decide)) (fun i hi => by rw [ha 61 (by decide), ha 62 (by decide)]; exact h.2.2.2.2 i hi)
theorem RL_row {I J : xI} {hc tc ln : Nat} {S : Nat → xSay} {sz : Nat → Nat} {n : Nat} (h : RL I hc tc ln S sz n) {i : Nat} (hi : i < hc) {F : Nat → Int32} (hF : hOK F) (h17 : J (17 + 2 * i) = F) (hrow : mRow J i = F) (hoth : ∀ k, k < 5 → k ≠ i → mRow J k = mRow I k) (hu : 0 ≤ F 4 ∧ F 4 ≤ 99) (ha : ∀ a, a ≠ 17 + 2 * i → a ≠ 59 → a ≠ 62 → J a = I a) (hk : ∀ k, k < 13 → J 59 k = I 59 k) : RL J hc tc ln S sz n := by
  obtain ⟨hK, hM, hR, hS, hT, hI, hO, hO2, hW⟩ := h
  have h5 := hM.1.2
  have hA : ∀ a, a ≠ 17 + 2 * i → a < 59 → J a = I a := fun a h1 h2 => ha a h1 (by omega) (by omega)
  have h62 : ∀ k, k < 5 → ∀ j, 2 ≤ j → j < 8 → J 62 (6 * k + (j - 2)) = mRow J k j := by
    intro k hk j h1 h2
    have hj : j = 2 ∨ j = 3 ∨ j = 4 ∨ j = 5 ∨ j = 6 ∨ j = 7 := by omega
    rcases hj with rfl | rfl | rfl | rfl | rfl | rfl <;> rfl
  have h62' : ∀ k, k < 5 → ∀ j, 2 ≤ j → j < 8 → I 62 (6 * k + (j - 2)) = mRow I k j := by
    intro k hk j h1 h2
    have hj : j = 2 ∨ j = 3 ∨ j = 4 ∨ j = 5 ∨ j = 6 ∨ j = 7 := by omega
    rcases hj with rfl | rfl | rfl | rfl | rfl | rfl <;> rfl
  refine ⟨cOK_of hK (by rw [hA 0 (by omega) (by decide)]; exact hK.1.1) hK.1.2 (by rw [hA 0 (by omega) (by decide)]) (by rw [hA 0 (by omega) (by decide)]; exact hK.2.2.1.1) hK.2.2.1.2 (fun a h1 h2 => hA a (by omega) (by omega)) (fun k hk5 => ?_), mOK_of hM ((hk 0 (by decide)).trans hM.1.1) hM.1.2 (hk 8 (by decide)) ((hk 9 (by decide)).trans hM.2.2.1.1) hM.2.2.1.2 (ha _ (by omega) (by decide) (by decide)) (ha _ (by omega) (by decide) (by decide)) (fun k hk5 => ⟨?_, ?_⟩), fun k hk2 => ?_, shRel_c hS (fun a h1 h2 => hA a (by omega) h2) (ha _ (by omega) (by decide) (by decide)) (ha _ (by omega) (by decide) (by decide)) (ha _ (by omega) (by decide) (by decide)), ?_, imRel_c hI (Nat.le_refl _) (by rw [hA 0 (by omega) (by decide)]) (by rw [hA 0 (by omega) (by decide)]) (fun k h1 h2 => hk k h2) (fun k hk2 => hA _ (by omega) (by omega)) (fun k hk2 => iRow_c (ha _ (by omega) (by decide) (by decide)) (ha _ (by omega) (by decide) (by decide)) (ha _ (by omega) (by decide) (by decide))), fun k hk5 => by rw [hA _ (by omega) (by omega)]; exact hO k hk5, fun k hk5 => ?_, fun j hj => by rw [ha 71 (by omega) (by decide) (by decide)]; exact hW j hj⟩
  · by_cases e : k = i
    · subst e; rw [h17]; exact hF
    · rw [hA _ (by omega) (by omega)]; exact hK.2.2.2.2 k hk5
  · rw [ha 61 (by omega) (by decide) (by decide)]; exact (hM.2.2.2.2 k hk5).1
  · rw [h62 k hk5 7 (by decide) (by decide)]
    by_cases e : k = i
    · subst e; rw [hrow]; exact hF.1
    · rw [hoth k hk5 e]; exact (hM.2.2.2.2 k hk5).2
  · by_cases e : k = i
    · subst e; rw [h17, hrow]
    · rw [hA _ (by omega) (by omega), hoth k (by omega) e]; exact hR k hk2
  · obtain ⟨t1, t2, t3, t4, t5⟩ := hT
    exact ⟨by rw [hA 11 (by omega) (by decide)]; exact t1, t2, (hk 5 (by decide)).trans t3, by rw [hA 12 (by omega) (by decide), ha 63 (by omega) (by decide) (by decide)]; exact t4, fun j hj => by rw [hA 12 (by omega) (by decide)]; exact t5 j hj⟩
  · rw [ha 66 (by omega) (by decide) (by decide)]
    refine ⟨(hO2 k hk5).1, (hO2 k hk5).2.1, ?_⟩
    have e4 : J 62 (6 * k + 2) = mRow J k 4 := rfl
    rw [e4]
    by_cases e : k = i
    · subst e; rw [hrow]; exact hu
    · rw [hoth k hk5 e]; exact (hO2 k hk5).2.2
theorem mRow_8 (I : xI) (i : Nat) : ∀ j, 8 ≤ j → mRow I i j = 0 := by
  intro j hj
  unfold mRow
  rw [if_neg (by omega), if_neg (by omega), if_neg (by omega), if_neg (by omega), if_neg (by omega), if_neg (by omega), if_neg (by omega), if_neg (by omega)]
theorem lay_row {I J : xI} {i : Nat} {F : Nat → Int32} (h60 : J 60 = I 60) (h61 : J 61 = I 61) (h62 : J 62 = mLay (I 62) i F) (h0 : F 0 = mRow I i 0) (h1 : F 1 = mRow I i 1) (h3 : F 3 = mRow I i 3) (h4 : F 4 = mRow I i 4) (h8 : ∀ j, 8 ≤ j → F j = 0) : mRow J i = F := by
  funext j
  by_cases h : 8 ≤ j
  · rw [mRow_8 J i j h, h8 j h]
  · have hj : j = 0 ∨ j = 1 ∨ j = 2 ∨ j = 3 ∨ j = 4 ∨ j = 5 ∨ j = 6 ∨ j = 7 := by omega
    rcases hj with rfl | rfl | rfl | rfl | rfl | rfl | rfl | rfl
    · rw [h0]; show J 60 i = I 60 i; rw [h60]
    · rw [h1]; show J 61 i = I 61 i; rw [h61]
    · show J 62 (6 * i) = _; rw [h62, mLay]; simp only [xup_ap]; grind
    · rw [h3]; show J 62 (6 * i + 1) = I 62 (6 * i + 1); rw [h62, mLay]; simp only [xup_ap]; grind
    · rw [h4]; show J 62 (6 * i + 2) = I 62 (6 * i + 2); rw [h62, mLay]; simp only [xup_ap]; grind
    · show J 62 (6 * i + 3) = _; rw [h62, mLay]; simp only [xup_ap]; grind
    · show J 62 (6 * i + 4) = _; rw [h62, mLay]; simp only [xup_ap]; grind
    · show J 62 (6 * i + 5) = _; rw [h62, mLay]; simp only [xup_ap]; grind
theorem row_oth {I J : xI} {i k : Nat} (hk : k ≠ i) (h60 : J 60 = I 60) (h61 : J 61 = I 61) (h62 : ∀ x, (x < 6 * i ∨ 6 * i + 6 ≤ x) → J 62 x = I 62 x) : mRow J k = mRow I k := by
  have h : ∀ y, y < 6 → J 62 (6 * k + y) = I 62 (6 * k + y) := fun y hy => h62 _ (by omega)
  have h0 := h 0 (by decide)
  rw [Nat.add_zero] at h0
  unfold mRow
  rw [h60, h61, h0, h 1 (by decide), h 2 (by decide), h 3 (by decide), h 4 (by decide), h 5 (by decide)]
theorem mLay_o (r F : Nat → Int32) (i : Nat) : ∀ x, (x < 6 * i ∨ 6 * i + 6 ≤ x) → mLay r i F x = r x := by
  intro x hx
  rw [mLay, xup_n _ _ (by omega), xup_n _ _ (by omega), xup_n _ _ (by omega), xup_n _ _ (by omega)]
theorem hLing_o (S : xSay) (y : Int32) (F : Nat → Int32) {j : Nat} (hj : j ≠ 2) : ∀ k, hLing S y k F j = F j
  | 0 => rfl
  | k + 1 => by rw [hLing, hFade, xup_n _ _ hj]; exact hLing_o S y F hj k
theorem hStep_o (S : xSay) (p y : Int32) (F : Nat → Int32) {j : Nat} (h : j ≠ 2 ∧ j ≠ 5 ∧ j ≠ 6 ∧ j ≠ 7) : hStep S p y F j = F j := by
  unfold hStep
  split
  · split
    · rw [xup_n _ _ h.2.2.2]
    · rw [hFade, xup_n _ _ h.1, xup_n _ _ h.2.2.1, xup_n _ _ h.2.1]
  · rw [xup_n _ _ h.2.2.2]
theorem hGo_o (S : xSay) (p y : Int32) {j : Nat} (h : j ≠ 2 ∧ j ≠ 5 ∧ j ≠ 6 ∧ j ≠ 7) : ∀ (k : Nat) (F : Nat → Int32), hGo S p y k F j = F j
  | 0, _ => rfl
  | k + 1, F => by rw [hGo, hGo_o S p y h k, hStep_o S p y F h]
theorem hOK_row {I : xI} {hc tc ln : Nat} {S : Nat → xSay} (h : mOK I hc tc ln S) {i : Nat} (hi : i < 5) : hOK (mRow I i) := ⟨(h.2.2.2.2 i hi).2, mRow_8 I i⟩
theorem s_rest (l : Launch) (G : xG) {d : Nat} (nn : Nat) (hd : 42 ≤ d) {I : xI} (hr : RI I) (h sec eyes : Int32) : ∃ J J' v, XM l G d y_X_rest b_X_rest 5 (some .int) 0 0 xK0 [.ref (xg G 0), .int h, .int sec, .int eyes] nn (xm G xYf I) (some (.int v)) nn (xm G xYf J) ∧ XM l G d y_Model_rest b_Model_rest 4 (some .int) 0 0 xK0 [.ref (xg G 59), .int h, .int sec, .int eyes] nn (xm G xYf J) (some (.int v)) nn (xm G xYf J') ∧ RI J' := by
  obtain ⟨hc, tc, ln, S, sz, n, hRL⟩ := id hr
  obtain ⟨hK, hM, hR, hS, hT, hI, hO, hO2, hW⟩ := id hRL
  have h5 := hM.1.2
  have hsz : sOK I sz := fun q hq => ⟨(hS q hq).2.1, (hS q hq).2.2.2.1⟩
  have hmz : msOK I sz := fun q hq => ⟨(hS q hq).2.2.1, (hS q hq).2.2.2.1⟩
  have a := c_X_rest l G (d := d) nn I (by omega) hc tc ln S hK h sec eyes
  by_cases hok : okRest hc h sec eyes = true
  · rw [if_pos hok] at a
    have hx : xin h 0 (nI hc - 1) = true := by
      rw [okRest] at hok
      simp only [Bool.and_eq_true] at hok
      exact hok.1.1
    obtain ⟨i, hi, rfl⟩ := cHead h5 hx
    rw [nI_cl (show i < 2 ^ 31 by omega)] at a
    have hr17 := hR i hi
    rw [hr17] at a
    generalize hJ : xup I (17 + 2 * i) (hLing (S ln) eyes sec.toNatClampNeg (mRow I i)) = J at a
    have hJa : ∀ x, x ≠ 17 + 2 * i → J x = I x := fun x hx => by rw [← hJ, xup_n _ _ hx]
    have hMJ := mOK_cls hM (fun x hx => hJa x (by omega))
    have b := c_Model_rest l G (d := d) nn (by omega) J hc tc ln S hMJ (nI i) sec eyes
    rw [if_pos hok, nI_cl (show i < 2 ^ 31 by omega)] at b
    have hmr : mRow J i = mRow I i := mRow_c (hJa _ (by omega)) (hJa _ (by omega)) (hJa _ (by omega))
    have hans : aRest hc (S ln) (mRow J) (nI i) sec eyes = aRest hc (S ln) (fun i => I (17 + 2 * i)) (nI i) sec eyes := r_aRest h5 (fun k hk => by rw [mRow_c (hJa _ (by omega)) (hJa _ (by omega)) (hJa _ (by omega))]; exact (hR k hk).symm) _ _ _ _
    rw [hans, hmr] at b
    refine ⟨J, _, _, a, b, hc, tc, ln, S, sz, n, ?_⟩
    have hOKi := hOK_row hM (show i < 5 by omega)
    have e62 : J 62 = I 62 := hJa _ (by omega)
    generalize hF : hLing (S ln) eyes sec.toNatClampNeg (mRow I i) = F at *
    have fo : ∀ j, j ≠ 2 ∧ j ≠ 5 ∧ j ≠ 6 ∧ j ≠ 7 → F j = mRow I i j := fun j hj => by rw [← hF]; exact hLing_o _ _ _ hj.1 _
    have f8 : ∀ j, 8 ≤ j → F j = 0 := fun j hj => (fo j (by omega)).trans (mRow_8 I i j hj)
    refine RL_row hRL hi (F := F) ⟨by rw [← hF]; exact h7_ling (hOKi.1) _, f8⟩ ?_ ?_ ?_ ?_ ?_ ?_
    · rw [xup_n _ _ (by omega), xup_n _ _ (by omega), ← hJ, xup_s]
    · exact lay_row (I := I) (by rw [xup_n _ _ (by decide), xup_n _ _ (by decide)]; exact hJa _ (by omega)) (by rw [xup_n _ _ (by decide), xup_n _ _ (by decide)]; exact hJa _ (by omega)) (by rw [xup_s, e62]) (fo 0 (by decide)) (fo 1 (by decide)) (fo 3 (by decide)) (fo 4 (by decide)) f8
    · intro k hk hne
      exact row_oth hne (by rw [xup_n _ _ (by decide), xup_n _ _ (by decide)]; exact hJa _ (by omega)) (by rw [xup_n _ _ (by decide), xup_n _ _ (by decide)]; exact hJa _ (by omega)) (fun x hx => by rw [xup_s, e62]; exact mLay_o _ _ _ x hx)
    · rw [fo 4 (by decide)]; exact (hO2 i (by omega)).2.2
    · intro x h1 h2 h3
      rw [xup_n _ _ h3, xup_n _ _ h2]; exact hJa x h1
    · intro k hk
      rw [xup_n _ _ (by decide), xup_s, sc_o _ _ _ (by omega), hJa 59 (by omega)]
  · rw [if_neg hok] at a
    have b := c_Model_rest l G (d := d) nn (by omega) I hc tc ln S hM h sec eyes
    rw [if_neg hok] at b
    have e := r_aRest h5 (fun i hi => (hR i hi).symm) (S ln) h sec eyes
    rw [e] at b
    exact ⟨I, I, _, a, b, hr⟩
theorem s_walk (l : Launch) (G : xG) {d : Nat} (nn : Nat) (hd : 42 ≤ d) {I : xI} (hr : RI I) (h sec pe : Int32) : ∃ J J' v, XM l G d y_X_walk b_X_walk 5 (some .int) 0 0 xK0 [.ref (xg G 0), .int h, .int sec, .int pe] nn (xm G xYf I) (some (.int v)) nn (xm G xYf J) ∧ XM l G d y_Model_walk b_Model_walk 4 (some .int) 0 0 xK0 [.ref (xg G 59), .int h, .int sec, .int pe] nn (xm G xYf J) (some (.int v)) nn (xm G xYf J') ∧ RI J' := by
  obtain ⟨hc, tc, ln, S, sz, n, hRL⟩ := id hr
  obtain ⟨hK, hM, hR, hS, hT, hI, hO, hO2, hW⟩ := id hRL
  have h5 := hM.1.2
  have hsz : sOK I sz := fun q hq => ⟨(hS q hq).2.1, (hS q hq).2.2.2.1⟩
  have hmz : msOK I sz := fun q hq => ⟨(hS q hq).2.2.1, (hS q hq).2.2.2.1⟩
  have a := c_X_walk l G (d := d) nn I (by omega) hc tc ln S hK h sec pe
  by_cases hok : okWalk hc h sec pe = true
  · rw [if_pos hok] at a
    have hx : xin h 0 (nI hc - 1) = true := by
      rw [okWalk] at hok
      simp only [Bool.and_eq_true] at hok
      exact hok.1.1
    obtain ⟨i, hi, rfl⟩ := cHead h5 hx
    rw [nI_cl (show i < 2 ^ 31 by omega)] at a
    have hr17 := hR i hi
    rw [hr17] at a
    generalize hJ : xup I (17 + 2 * i) (hGo (S ln) (pe / 10) (pe - pe / 10 * 10) sec.toNatClampNeg (mRow I i)) = J at a
    have hJa : ∀ x, x ≠ 17 + 2 * i → J x = I x := fun x hx => by rw [← hJ, xup_n _ _ hx]
    have hMJ := mOK_cls hM (fun x hx => hJa x (by omega))
    have b := c_Model_walk l G (d := d) nn (by omega) J hc tc ln S hMJ (nI i) sec pe
    rw [if_pos hok, nI_cl (show i < 2 ^ 31 by omega)] at b
    have hmr : mRow J i = mRow I i := mRow_c (hJa _ (by omega)) (hJa _ (by omega)) (hJa _ (by omega))
    have hans : aWalk hc (S ln) (mRow J) (nI i) sec pe = aWalk hc (S ln) (fun i => I (17 + 2 * i)) (nI i) sec pe := r_aWalk h5 (fun k hk => by rw [mRow_c (hJa _ (by omega)) (hJa _ (by omega)) (hJa _ (by omega))]; exact (hR k hk).symm) _ _ _ _
    rw [hans, hmr] at b
    refine ⟨J, _, _, a, b, hc, tc, ln, S, sz, n, ?_⟩
    have hOKi := hOK_row hM (show i < 5 by omega)
    have e62 : J 62 = I 62 := hJa _ (by omega)
    generalize hF : hGo (S ln) (pe / 10) (pe - pe / 10 * 10) sec.toNatClampNeg (mRow I i) = F at *
    have fo : ∀ j, j ≠ 2 ∧ j ≠ 5 ∧ j ≠ 6 ∧ j ≠ 7 → F j = mRow I i j := fun j hj => by rw [← hF]; exact hGo_o _ _ _ hj _ _
    have f8 : ∀ j, 8 ≤ j → F j = 0 := fun j hj => (fo j (by omega)).trans (mRow_8 I i j hj)
    refine RL_row hRL hi (F := F) ⟨by rw [← hF]; exact hGo_7 _ _ _ _ hOKi.1, f8⟩ ?_ ?_ ?_ ?_ ?_ ?_
    · rw [xup_n _ _ (by omega), xup_n _ _ (by omega), ← hJ, xup_s]
    · exact lay_row (I := I) (by rw [xup_n _ _ (by decide), xup_n _ _ (by decide)]; exact hJa _ (by omega)) (by rw [xup_n _ _ (by decide), xup_n _ _ (by decide)]; exact hJa _ (by omega)) (by rw [xup_s, e62]) (fo 0 (by decide)) (fo 1 (by decide)) (fo 3 (by decide)) (fo 4 (by decide)) f8
    · intro k hk hne
      exact row_oth hne (by rw [xup_n _ _ (by decide), xup_n _ _ (by decide)]; exact hJa _ (by omega)) (by rw [xup_n _ _ (by decide), xup_n _ _ (by decide)]; exact hJa _ (by omega)) (fun x hx => by rw [xup_s, e62]; exact mLay_o _ _ _ x hx)
    · rw [fo 4 (by decide)]; exact (hO2 i (by omega)).2.2
    · intro x h1 h2 h3
      rw [xup_n _ _ h3, xup_n _ _ h2]; exact hJa x h1
    · intro k hk
      rw [xup_n _ _ (by decide), xup_s, sc_o _ _ _ (by omega), hJa 59 (by omega)]
  · rw [if_neg hok] at a
    have b := c_Model_walk l G (d := d) nn (by omega) I hc tc ln S hM h sec pe
    rw [if_neg hok] at b
    have e := r_aWalk h5 (fun i hi => (hR i hi).symm) (S ln) h sec pe
    rw [e] at b
    exact ⟨I, I, _, a, b, hr⟩
