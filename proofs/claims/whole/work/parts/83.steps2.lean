theorem zOK_up {F : Nat → Int32} (h : hOK F) {k : Nat} (hk : k < 7) (v : Int32) : hOK (xup F k v) := ⟨by rw [xup_n _ _ (by omega)]; exact h.1, fun j hj => by rw [xup_n _ _ (by omega)]; exact h.2 j hj⟩
theorem zOK_std {F : Nat → Int32} (h : hOK F) : hOK (hStd F) := ⟨Or.inl rfl, fun j hj => by rw [hStd, xup_n _ _ (by omega), xup_n _ _ (by omega), xup_n _ _ (by omega)]; exact h.2 j hj⟩
/-- the row that stands at i when the model's numbers are r -/
theorem row_of {I J : xI} {i : Nat} {F : Nat → Int32} (h60 : J 60 = I 60) (h61 : J 61 = I 61) (h0 : F 0 = mRow I i 0) (h1 : F 1 = mRow I i 1) (h2 : J 62 (6 * i) = F 2) (h3 : J 62 (6 * i + 1) = F 3) (h4 : J 62 (6 * i + 2) = F 4) (h5 : J 62 (6 * i + 3) = F 5) (h6 : J 62 (6 * i + 4) = F 6) (h7 : J 62 (6 * i + 5) = F 7) (h8 : ∀ j, 8 ≤ j → F j = 0) : mRow J i = F := by
  funext j
  by_cases h : 8 ≤ j
  · rw [mRow_8 J i j h, h8 j h]
  · have hj : j = 0 ∨ j = 1 ∨ j = 2 ∨ j = 3 ∨ j = 4 ∨ j = 5 ∨ j = 6 ∨ j = 7 := by omega
    rcases hj with rfl | rfl | rfl | rfl | rfl | rfl | rfl | rfl
    · rw [h0]; show J 60 i = I 60 i; rw [h60]
    · rw [h1]; show J 61 i = I 61 i; rw [h61]
    · exact h2
    · exact h3
    · exact h4
    · exact h5
    · exact h6
    · exact h7
theorem s_turn (l : Launch) (G : xG) {d : Nat} (nn : Nat) (hd : 42 ≤ d) {I : xI} (hr : RI I) (h n1 sp : Int32) : ∃ J J' v, XM l G d y_X_turn b_X_turn 5 (some .int) 0 0 xK0 [.ref (xg G 0), .int h, .int n1, .int sp] nn (xm G xYf I) (some (.int v)) nn (xm G xYf J) ∧ XM l G d y_Model_turn b_Model_turn 4 (some .int) 0 0 xK0 [.ref (xg G 59), .int h, .int n1, .int sp] nn (xm G xYf J) (some (.int v)) nn (xm G xYf J') ∧ RI J' := by
  obtain ⟨hc, tc, ln, S, sz, n, hRL⟩ := id hr
  obtain ⟨hK, hM, hR, hS, hT, hI, hO, hO2, hW⟩ := id hRL
  have h5 := hM.1.2
  have hsz : sOK I sz := fun q hq => ⟨(hS q hq).2.1, (hS q hq).2.2.2.1⟩
  have hmz : msOK I sz := fun q hq => ⟨(hS q hq).2.2.1, (hS q hq).2.2.2.1⟩
  have a := c_X_turn l G (d := d) nn I (by omega) hc tc ln S hK h n1 sp
  by_cases hok : okTurn hc h n1 sp = true
  · rw [if_pos hok] at a
    have hx : xin h 0 (nI hc - 1) = true := by
      rw [okTurn] at hok
      simp only [Bool.and_eq_true] at hok
      exact hok.1.1
    obtain ⟨i, hi, rfl⟩ := cHead h5 hx
    rw [nI_cl (show i < 2 ^ 31 by omega)] at a
    have hr17 := hR i hi
    rw [hr17] at a
    generalize hJ : xup I (17 + 2 * i) (rTurn (S ln) n1 sp (mRow I i)) = J at a
    have hJa : ∀ x, x ≠ 17 + 2 * i → J x = I x := fun x hx => by rw [← hJ, xup_n _ _ hx]
    have hMJ := mOK_cls hM (fun x hx => hJa x (by omega))
    have b := c_Model_turn l G (d := d) nn (by omega) J hc tc ln S hMJ (nI i) n1 sp
    rw [if_pos hok, nI_cl (show i < 2 ^ 31 by omega)] at b
    have hmr : mRow J i = mRow I i := mRow_c (hJa _ (by omega)) (hJa _ (by omega)) (hJa _ (by omega))
    have hans : aTurn hc (S ln) (mRow J) (nI i) n1 sp = aTurn hc (S ln) (fun i => I (17 + 2 * i)) (nI i) n1 sp := r_aTurn h5 (fun k hk => by rw [mRow_c (hJa _ (by omega)) (hJa _ (by omega)) (hJa _ (by omega))]; exact (hR k hk).symm) _ _ _ _
    rw [hans, hmr] at b
    have hOKi := hOK_row hM (show i < 5 by omega)
    have e62 : J 62 = I 62 := hJa _ (by omega)
    rw [e62] at b
    have hu := (hO2 i (by omega)).2.2
    have hF17 : J (17 + 2 * i) = rTurn (S ln) n1 sp (mRow I i) := by rw [← hJ, xup_s]
    unfold rTurn at hF17
    have h7 : hSpin (S ln) n1 sp (mRow I i) 7 = 0 ∨ hSpin (S ln) n1 sp (mRow I i) 7 = 1 := h7_spin hOKi.1
    have fo : ∀ j, j ≠ 2 → hSpin (S ln) n1 sp (mRow I i) j = mRow I i j := fun j hj => hSpinN_o _ _ _ _ hj _
    generalize hSpin (S ln) n1 sp (mRow I i) = F at *
    have f4 : F 4 = I 62 (6 * i + 2) := fo 4 (by decide)
    obtain ⟨u, hu1, hue⟩ := nI_of (x := I 62 (6 * i + 2)) (Int32.not_lt.mpr hu.1)
    have hu99 : u ≤ 99 := (nI_leI (b := 99) hu1 (by decide)).mp (by rw [← hue]; exact hu.2)
    have hl4 : mLay (I 62) i F (6 * i + 2) = I 62 (6 * i + 2) := by rw [mLay, xup_n _ _ (by omega), xup_n _ _ (by omega), xup_n _ _ (by omega), xup_n _ _ (by omega)]
    have hbd : xbd (I 62 (6 * i + 2) + 1) 0 99 = (if 99 < F 4 + 1 then 99 else F 4 + 1) := by
      rw [f4, hue, nI_1, xbd]
      have z0 := (nI_nn (x := u + 1) (by omega)).1
      by_cases hz : (99 : Int32) < nI (u + 1)
      · rw [if_pos hz]; grind
      · rw [if_neg hz]; grind
    have hv : 0 ≤ (if 99 < F 4 + 1 then 99 else F 4 + 1) ∧ (if 99 < F 4 + 1 then 99 else F 4 + 1) ≤ 99 := by
      rw [f4, hue, nI_1]
      have z0 := (nI_nn (x := u + 1) (by omega)).2.2
      by_cases hz : (99 : Int32) < nI (u + 1)
      · rw [if_pos hz]; decide
      · rw [if_neg hz]; exact ⟨z0, Int32.not_lt.mp hz⟩
    rw [hl4, hbd] at b
    generalize (if 99 < F 4 + 1 then 99 else F 4 + 1) = v at *
    have hFO : hOK F := ⟨h7, fun j hj => (fo j (by omega)).trans (mRow_8 I i j hj)⟩
    refine ⟨J, _, _, a, b, hc, tc, ln, S, sz, n, RL_row hRL hi (F := xup F 4 v) (zOK_up hFO (by decide) v) ?_ ?_ ?_ ?_ ?_ ?_⟩
    · rw [xup_n _ _ (by omega), xup_n _ _ (by omega)]; exact hF17
    · refine row_of (I := I) (by rw [xup_n _ _ (by decide), xup_n _ _ (by decide)]; exact hJa _ (by omega)) (by rw [xup_n _ _ (by decide), xup_n _ _ (by decide)]; exact hJa _ (by omega)) ?_ ?_ ?_ ?_ ?_ ?_ ?_ ?_ (zOK_up hFO (by decide) v).2
      · rw [xup_n _ _ (by decide)]; exact fo 0 (by decide)
      · rw [xup_n _ _ (by decide)]; exact fo 1 (by decide)
      · rw [xup_s, xup_n _ _ (by omega), xup_n _ _ (by decide), mLay]; simp only [xup_ap]; grind
      · rw [xup_s, xup_n _ _ (by omega), xup_n _ _ (by decide), fo 3 (by decide), mLay]; simp only [xup_ap]; show _ = I 62 (6 * i + 1); grind
      · rw [xup_s, xup_s, xup_s]
      · rw [xup_s, xup_n _ _ (by omega), xup_n _ _ (by decide), mLay]; simp only [xup_ap]; grind
      · rw [xup_s, xup_n _ _ (by omega), xup_n _ _ (by decide), mLay]; simp only [xup_ap]; grind
      · rw [xup_s, xup_n _ _ (by omega), xup_n _ _ (by decide), mLay]; simp only [xup_ap]; grind
    · intro k hk hne
      exact row_oth hne (by rw [xup_n _ _ (by decide), xup_n _ _ (by decide)]; exact hJa _ (by omega)) (by rw [xup_n _ _ (by decide), xup_n _ _ (by decide)]; exact hJa _ (by omega)) (fun x hx => by rw [xup_s, xup_n _ _ (by omega)]; exact mLay_o _ _ _ x hx)
    · rw [xup_s]; exact hv
    · intro x h1 h2 h3
      rw [xup_n _ _ h3, xup_n _ _ h2]; exact hJa x h1
    · intro k hk
      rw [xup_n _ _ (by decide), xup_s, sc_o _ _ _ (by omega), hJa 59 (by omega)]
  · rw [if_neg hok] at a
    have b := c_Model_turn l G (d := d) nn (by omega) I hc tc ln S hM h n1 sp
    rw [if_neg hok] at b
    have e := r_aTurn h5 (fun i hi => (hR i hi).symm) (S ln) h n1 sp
    rw [e] at b
    exact ⟨I, I, _, a, b, hr⟩
theorem s_up (l : Launch) (G : xG) {d : Nat} (nn : Nat) (hd : 42 ≤ d) {I : xI} (hr : RI I) (h : Int32) : ∃ J J' v, XM l G d y_X_up b_X_up 4 (some .int) 0 0 xK0 [.ref (xg G 0), .int h] nn (xm G xYf I) (some (.int v)) nn (xm G xYf J) ∧ XM l G d y_Model_up b_Model_up 3 (some .int) 0 0 xK0 [.ref (xg G 59), .int h] nn (xm G xYf J) (some (.int v)) nn (xm G xYf J') ∧ RI J' := by
  obtain ⟨hc, tc, ln, S, sz, n, hRL⟩ := id hr
  obtain ⟨hK, hM, hR, hS, hT, hI, hO, hO2, hW⟩ := id hRL
  have h5 := hM.1.2
  have hsz : sOK I sz := fun q hq => ⟨(hS q hq).2.1, (hS q hq).2.2.2.1⟩
  have hmz : msOK I sz := fun q hq => ⟨(hS q hq).2.2.1, (hS q hq).2.2.2.1⟩
  have a := c_X_up l G (d := d) nn I (by omega) hc tc ln S hK h
  by_cases hok : xin h 0 (nI hc - 1) = true
  · rw [if_pos hok] at a
    obtain ⟨i, hi, rfl⟩ := cHead h5 hok
    rw [nI_cl (show i < 2 ^ 31 by omega)] at a
    have hr17 := hR i hi
    rw [hr17] at a
    generalize hJ : xup I (17 + 2 * i) (hStd (mRow I i)) = J at a
    have hJa : ∀ x, x ≠ 17 + 2 * i → J x = I x := fun x hx => by rw [← hJ, xup_n _ _ hx]
    have hMJ := mOK_cls hM (fun x hx => hJa x (by omega))
    have b := c_Model_up l G (d := d) nn (by omega) J hc tc ln S hMJ (nI i)
    rw [if_pos hok, nI_cl (show i < 2 ^ 31 by omega)] at b
    have hans : aUp hc (mRow J) (nI i) = aUp hc (fun i => I (17 + 2 * i)) (nI i) := r_aUp h5 (fun k hk => by rw [mRow_c (hJa _ (by omega)) (hJa _ (by omega)) (hJa _ (by omega))]; exact (hR k hk).symm) _
    rw [hans] at b
    have hOKi := hOK_row hM (show i < 5 by omega)
    have e62 : J 62 = I 62 := hJa _ (by omega)
    have ex : ∀ x, x ≠ 62 → (xw (xw (xw J 62 (6 * i + 3) 0) 62 (6 * i + 4) 0) 62 (6 * i + 5) 0) x = J x := fun x hx => by rw [xw_row _ _ _ hx, xw_row _ _ _ hx, xw_row _ _ _ hx]
    have ey : ∀ y, y ≠ 6 * i + 3 → y ≠ 6 * i + 4 → y ≠ 6 * i + 5 → (xw (xw (xw J 62 (6 * i + 3) 0) 62 (6 * i + 4) 0) 62 (6 * i + 5) 0) 62 y = I 62 y := fun y h1 h2 h3 => by rw [xw_k _ _ _ h3, xw_k _ _ _ h2, xw_k _ _ _ h1, e62]
    refine ⟨J, _, _, a, b, hc, tc, ln, S, sz, n, RL_row hRL hi (F := hStd (mRow I i)) (zOK_std hOKi) ?_ ?_ ?_ ?_ ?_ ?_⟩
    · rw [ex _ (by omega), ← hJ, xup_s]
    · refine row_of (I := I) (by rw [ex _ (by decide)]; exact hJa _ (by omega)) (by rw [ex _ (by decide)]; exact hJa _ (by omega)) rfl rfl (ey _ (by omega) (by omega) (by omega)) (ey _ (by omega) (by omega) (by omega)) (ey _ (by omega) (by omega) (by omega)) ?_ ?_ ?_ (zOK_std hOKi).2
      · rw [xw_k _ _ _ (by omega), xw_k _ _ _ (by omega), xw_s]; rfl
      · rw [xw_k _ _ _ (by omega), xw_s]; rfl
      · rw [xw_s]; rfl
    · intro k hk hne
      exact row_oth hne (by rw [ex _ (by decide)]; exact hJa _ (by omega)) (by rw [ex _ (by decide)]; exact hJa _ (by omega)) (fun x hx => ey x (by omega) (by omega) (by omega))
    · exact (hO2 i (by omega)).2.2
    · intro x h1 h2 h3
      rw [ex x h3]; exact hJa x h1
    · intro k hk
      rw [ex _ (by decide), hJa 59 (by omega)]
  · rw [if_neg hok] at a
    have b := c_Model_up l G (d := d) nn (by omega) I hc tc ln S hM h
    rw [if_neg hok] at b
    have e := r_aUp h5 (fun i hi => (hR i hi).symm) h
    rw [e] at b
    exact ⟨I, I, _, a, b, hr⟩
theorem set_row {I J J' : xI} {hc tc ln : Nat} {S : Nat → xSay} {sz : Nat → Nat} {n : Nat} (hRL : RL I hc tc ln S sz n) {i k y : Nat} (hi : i < hc) (hk : k = y + 2) (hy : y < 3) {v : Int32} (hv : y = 2 → 0 ≤ v ∧ v ≤ 99) (hJ : J = xw I (17 + 2 * i) k v) (hJ2 : J' = xw J 62 (6 * i + y) v) : RL J' hc tc ln S sz n := by
  subst hJ hJ2 hk
  obtain ⟨hK, hM, hR, hS, hT, hI, hO, hO2, hW⟩ := id hRL
  have h5 := hM.1.2
  have hOKi := hOK_row hM (show i < 5 by omega)
  have hJa : ∀ x, x ≠ 17 + 2 * i → (xw I (17 + 2 * i) (y + 2) v) x = I x := fun x hx => xw_row _ _ _ hx
  have hF := zOK_up hOKi (k := y + 2) (by omega) v
  refine RL_row hRL hi (F := xup (mRow I i) (y + 2) v) hF ?_ ?_ ?_ ?_ ?_ ?_
  · rw [xw_row _ _ _ (by omega), xw_is, xup_s, hR i hi]
  · have e : ∀ z, (xw (xw I (17 + 2 * i) (y + 2) v) 62 (6 * i + y) v) 62 z = xup (I 62) (6 * i + y) v z := fun z => by rw [xw_is, xup_s, hJa 62 (by omega)]
    have hc3 : y = 0 ∨ y = 1 ∨ y = 2 := by omega
    refine row_of (I := I) (by rw [xw_row _ _ _ (by decide)]; exact hJa _ (by omega)) (by rw [xw_row _ _ _ (by decide)]; exact hJa _ (by omega)) (xup_n _ _ (by omega)) (xup_n _ _ (by omega)) ?_ ?_ ?_ ?_ ?_ ?_ hF.2 <;> rw [e] <;> rcases hc3 with rfl | rfl | rfl <;> simp only [xup_ap, mRow] <;> grind
  · intro k hk hne
    exact row_oth hne (by rw [xw_row _ _ _ (by decide)]; exact hJa _ (by omega)) (by rw [xw_row _ _ _ (by decide)]; exact hJa _ (by omega)) (fun x hx => by rw [xw_k _ _ _ (by omega), hJa 62 (by omega)])
  · by_cases e : y = 2
    · subst e; rw [xup_s]; exact hv rfl
    · rw [xup_n _ _ (by omega)]; exact (hO2 i (by omega)).2.2
  · intro x h1 h2 h3
    rw [xw_row _ _ _ h3]; exact hJa x h1
  · intro k hk
    rw [xw_row _ _ _ (by decide), hJa 59 (by omega)]
theorem s_set (l : Launch) (G : xG) {d : Nat} (nn : Nat) (hd : 42 ≤ d) {I : xI} (hr : RI I) (h what v : Int32) : ∃ J J' v1, XM l G d y_X_set b_X_set 6 (some .int) 0 0 xK0 [.ref (xg G 0), .int h, .int what, .int v] nn (xm G xYf I) (some (.int v1)) nn (xm G xYf J) ∧ XM l G d y_Model_set b_Model_set 5 (some .int) 0 0 xK0 [.ref (xg G 59), .int h, .int what, .int v] nn (xm G xYf J) (some (.int v1)) nn (xm G xYf J') ∧ RI J' := by
  obtain ⟨hc, tc, ln, S, sz, n, hRL⟩ := id hr
  obtain ⟨hK, hM, hR, hS, hT, hI, hO, hO2, hW⟩ := id hRL
  have h5 := hM.1.2
  have hsz : sOK I sz := fun q hq => ⟨(hS q hq).2.1, (hS q hq).2.2.2.1⟩
  have hmz : msOK I sz := fun q hq => ⟨(hS q hq).2.2.1, (hS q hq).2.2.2.1⟩
  have a := c_X_set l G (d := d) nn I (by omega) hc tc ln S hK h what v
  by_cases hok : xin h 0 (nI hc - 1) = true
  · obtain ⟨i, hi, rfl⟩ := cHead h5 hok
    rw [if_pos hok, nI_cl (show i < 2 ^ 31 by omega)] at a
    have hans : ∀ J : xI, (∀ x, 59 ≤ x → J x = I x) → aSet hc (mRow J) (nI i) what v = aSet hc (fun i => I (17 + 2 * i)) (nI i) what v := fun J hJa => r_aSet h5 (fun k hk => by rw [mRow_c (hJa _ (by omega)) (hJa _ (by omega)) (hJa _ (by omega))]; exact (hR k hk).symm) _ _ _
    have hgo : ∀ y k : Nat, k = y + 2 → y < 3 → (y = 2 → 0 ≤ v ∧ v ≤ 99) → ∀ J', J' = xw (xw I (17 + 2 * i) k v) 62 (6 * i + y) v → RI J' := fun y k h1 h2 h3 J' h4 => ⟨hc, tc, ln, S, sz, n, set_row hRL hi h1 h2 h3 rfl h4⟩
    have hcl : ∀ k : Nat, ∀ x, 59 ≤ x → (xw I (17 + 2 * i) k v) x = I x := fun k x hx => xw_row _ _ _ (by omega)
    by_cases h0 : what = 0 ∧ xin v (-9999) 9999 = true
    · rw [if_pos h0] at a
      have b := c_Model_set l G (d := d) nn (by omega) (xw I (17 + 2 * i) 2 v) hc tc ln S (mOK_cls hM (hcl 2)) (nI i) what v
      rw [if_pos hok, if_pos h0, nI_cl (show i < 2 ^ 31 by omega), hans _ (hcl 2)] at b
      exact ⟨_, _, _, a, b, hgo 0 2 rfl (by decide) (fun z => absurd z (by decide)) _ rfl⟩
    · rw [if_neg h0] at a
      by_cases h1 : what = 1 ∧ xin v 0 9 = true
      · rw [if_pos h1] at a
        have b := c_Model_set l G (d := d) nn (by omega) (xw I (17 + 2 * i) 3 v) hc tc ln S (mOK_cls hM (hcl 3)) (nI i) what v
        rw [if_pos hok, if_neg h0, if_pos h1, nI_cl (show i < 2 ^ 31 by omega), hans _ (hcl 3)] at b
        exact ⟨_, _, _, a, b, hgo 1 3 rfl (by decide) (fun z => absurd z (by decide)) _ rfl⟩
      · rw [if_neg h1] at a
        by_cases h2 : what = 2 ∧ xin v 0 99 = true
        · rw [if_pos h2] at a
          have b := c_Model_set l G (d := d) nn (by omega) (xw I (17 + 2 * i) 4 v) hc tc ln S (mOK_cls hM (hcl 4)) (nI i) what v
          rw [if_pos hok, if_neg h0, if_neg h1, if_pos h2, nI_cl (show i < 2 ^ 31 by omega), hans _ (hcl 4)] at b
          exact ⟨_, _, _, a, b, hgo 2 4 rfl (by decide) (fun _ => by have := xin_iff.mp h2.2; exact this) _ rfl⟩
        · rw [if_neg h2] at a
          have b := c_Model_set l G (d := d) nn (by omega) I hc tc ln S hM (nI i) what v
          rw [if_pos hok, if_neg h0, if_neg h1, if_neg h2, hans I (fun _ _ => rfl)] at b
          exact ⟨I, I, _, a, b, hr⟩
  · rw [if_neg hok] at a
    have b := c_Model_set l G (d := d) nn (by omega) I hc tc ln S hM h what v
    rw [if_neg hok] at b
    have e := r_aSet h5 (fun i hi => (hR i hi).symm) h what v
    rw [e] at b
    exact ⟨I, I, _, a, b, hr⟩
theorem s_force (l : Launch) (G : xG) {d : Nat} (nn : Nat) (hd : 42 ≤ d) {I : xI} (hr : RI I) (t : Int32) : ∃ J J' v, XM l G d y_X_force b_X_force 3 (some .int) 0 0 xK0 [.ref (xg G 0), .int t] nn (xm G xYf I) (some (.int v)) nn (xm G xYf J) ∧ XM l G d y_Model_force b_Model_force 3 (some .int) 0 0 xK0 [.ref (xg G 59), .int t] nn (xm G xYf J) (some (.int v)) nn (xm G xYf J') ∧ RI J' := by
  obtain ⟨hc, tc, ln, S, sz, n, hRL⟩ := id hr
  obtain ⟨hK, hM, hR, hS, hT, hI, hO, hO2, hW⟩ := id hRL
  have h5 := hM.1.2
  have hsz : sOK I sz := fun q hq => ⟨(hS q hq).2.1, (hS q hq).2.2.2.1⟩
  have hmz : msOK I sz := fun q hq => ⟨(hS q hq).2.2.1, (hS q hq).2.2.2.1⟩
  have a := c_X_force l G (d := d) nn I (by omega) hc tc ln S hK t
  by_cases hok : xin t 0 (nI tc - 1) = true
  · rw [if_pos hok] at a
    have htc := hM.2.1.2
    obtain ⟨k, hk, rfl⟩ := (xTop (z := tc) (by omega) t).mp hok
    have hcl : ∀ x, x ≠ 0 → (xw I 0 12 (nI k)) x = I x := fun x hx => xw_row _ _ _ hx
    have b := c_Model_force l G (d := d) nn (by omega) (xw I 0 12 (nI k)) hc tc ln S (mOK_cls hM (fun x hx => hcl x (by omega))) (nI k)
    rw [if_pos hok] at b
    have ha : ∀ x, x ≠ 0 → x ≠ 59 → (xw (xw I 0 12 (nI k)) 59 9 (nI k)) x = I x := fun x h1 h2 => by rw [xw_row _ _ _ h2]; exact hcl x h1
    have h0 : ∀ j, j ≠ 12 → (xw (xw I 0 12 (nI k)) 59 9 (nI k)) 0 j = I 0 j := fun j hj => by rw [xw_row _ _ _ (by decide), xw_k _ _ _ hj]
    have h9 : ∀ j, j ≠ 9 → (xw (xw I 0 12 (nI k)) 59 9 (nI k)) 59 j = I 59 j := fun j hj => by rw [xw_k _ _ _ hj, hcl 59 (by decide)]
    refine ⟨_, _, _, a, b, hc, tc, k, S, sz, n, ?_⟩
    refine ⟨cOK_of hK ((h0 10 (by decide)).trans hK.1.1) hK.1.2 (h0 11 (by decide)) (by rw [xw_row _ _ _ (by decide), xw_s]) hk (fun a h1 h2 => ha a (by omega) (by omega)) (fun i hi => by rw [ha _ (by omega) (by omega)]; exact hK.2.2.2.2 i hi), mOK_of hM ((h9 0 (by decide)).trans hM.1.1) hM.1.2 (h9 8 (by decide)) (xw_s _ _ _ _) hk (ha _ (by decide) (by decide)) (ha _ (by decide) (by decide)) (fun i hi => by rw [ha 61 (by decide) (by decide), ha 62 (by decide) (by decide)]; exact hM.2.2.2.2 i hi), fun i hi => ?_, shRel_c hS (fun a h1 h2 => ha a (by omega) (by omega)) (ha _ (by decide) (by decide)) (ha _ (by decide) (by decide)) (ha _ (by decide) (by decide)), ?_, imRel_c hI (Nat.le_refl _) (h0 13 (by decide)) (h0 14 (by decide)) (fun k h1 h2 => h9 k (by omega)) (fun i hi => ha _ (by omega) (by omega)) (fun i hi => iRow_c (ha _ (by decide) (by decide)) (ha _ (by decide) (by decide)) (ha _ (by decide) (by decide))), fun i hi => by rw [ha _ (by omega) (by omega)]; exact hO i hi, fun i hi => by rw [ha 66 (by decide) (by decide), ha 62 (by decide) (by decide)]; exact hO2 i hi, fun j hj => by rw [ha 71 (by decide) (by decide)]; exact hW j hj⟩
    · rw [ha _ (by omega) (by omega), mRow_c (ha _ (by decide) (by decide)) (ha _ (by decide) (by decide)) (ha _ (by decide) (by decide))]
      exact hR i hi
    · obtain ⟨t1, t2, t3, t4, t5⟩ := hT
      exact ⟨by rw [ha 11 (by decide) (by decide)]; exact t1, t2, (h9 5 (by decide)).trans t3, by rw [ha 12 (by decide) (by decide), ha 63 (by decide) (by decide)]; exact t4, fun j hj => by rw [ha 12 (by decide) (by decide)]; exact t5 j hj⟩
  · rw [if_neg hok] at a
    have b := c_Model_force l G (d := d) nn (by omega) I hc tc ln S hM t
    rw [if_neg hok] at b
    exact ⟨I, I, _, a, b, hr⟩
