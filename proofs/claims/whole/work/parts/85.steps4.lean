theorem s_back (l : Launch) (G : xG) {d : Nat} (nn : Nat) (hd : 42 ≤ d) {I : xI} (hr : RI I) : ∃ J J' v, XM l G d y_X_back b_X_back 2 (some .int) 0 0 xK0 [.ref (xg G 0)] nn (xm G xYf I) (some (.int v)) nn (xm G xYf J) ∧ XM l G d y_Model_back b_Model_back 2 (some .int) 0 0 xK0 [.ref (xg G 59)] nn (xm G xYf J) (some (.int v)) nn (xm G xYf J') ∧ RI J' := by
  obtain ⟨hc, tc, ln, S, sz, n, hRL⟩ := id hr
  obtain ⟨hK, hM, hR, hS, hT, hI, hO, hO2, hW⟩ := id hRL
  have h5 := hM.1.2
  have hsz : sOK I sz := fun q hq => ⟨(hS q hq).2.1, (hS q hq).2.2.2.1⟩
  have hmz : msOK I sz := fun q hq => ⟨(hS q hq).2.2.1, (hS q hq).2.2.2.1⟩
  rcases id hI with ⟨n1, n2⟩ | ⟨ic, il, i1, i2, i3, i4, i5, i6, i7, i8⟩
  · have a := c_X_back_no l G (d := d) nn I (by omega) hc tc ln S hK (by rw [n1]; decide)
    have b := c_Model_back_no l G (d := d) nn (by omega) I hc tc ln S hM n2
    exact ⟨I, I, _, a, b, hr⟩
  · have a := c_X_back l G (d := d) nn I (by omega) hc tc ln S hK hO ic il (by omega) i1 i2
    have hcp : ∀ a, (a < 17 ∨ 27 ≤ a ∨ a % 2 = 0) → cpB I ic a = I a := fun a ha => if_neg (by omega)
    have hge : ∀ a, a ≠ 0 → (a < 17 ∨ 27 ≤ a ∨ a % 2 = 0) → mBack I ic il a = I a := fun a h0 ha => by rw [mBack, xw_row _ _ _ h0, xw_row _ _ _ h0]; exact hcp a ha
    have hMJ := mOK_cls hM (J := mBack I ic il) (fun x hx => hge x (by omega) (by omega))
    have b := c_Model_back l G (d := d) nn (by omega) (mBack I ic il) hc tc ln S hMJ ic il (by rw [hge 59 (by decide) (by omega)]; exact i3) (by rw [hge 59 (by decide) (by omega)]; exact i4) (by rw [hge 59 (by decide) (by omega)]; exact i5)
    have h17 : ∀ i, i < 5 → mBack I ic il (17 + 2 * i) = if i < ic then I (18 + 2 * i) else I (17 + 2 * i) := fun i hi => by
      rw [mBack, xw_row _ _ _ (by omega), xw_row _ _ _ (by omega), cpB]
      by_cases hh : i < ic
      · rw [if_pos (by omega), if_pos hh, show 17 + 2 * i + 1 = 18 + 2 * i by omega]
      · rw [if_neg (by omega), if_neg hh]
    have h0 : ∀ k, k ≠ 10 → k ≠ 12 → mBack I ic il 0 k = I 0 k := fun k h1 h2 => by rw [mBack, xw_k _ _ _ h2, xw_k _ _ _ h1, hcp 0 (by omega)]
    have h010 : mBack I ic il 0 10 = nI ic := by rw [mBack, xw_k _ _ _ (by decide), xw_s]
    have h012 : mBack I ic il 0 12 = nI il := by rw [mBack, xw_s]
    generalize mBack I ic il = J at *
    have hx : ∀ a, a ≠ 59 → a ≠ 62 → mBackM J ic il a = J a := fun a h1 h2 => by rw [mBackM, xup_n _ _ h2, xw_row _ _ _ h1, xw_row _ _ _ h1]
    have h59 : ∀ k, k ≠ 0 → k ≠ 9 → mBackM J ic il 59 k = I 59 k := fun k h1 h2 => by rw [mBackM, xup_n _ _ (by decide), xw_k _ _ _ h2, xw_k _ _ _ h1, hge 59 (by decide) (by omega)]
    have h62 : mBackM J ic il 62 = cp3 30 (I 66) (I 62) := by rw [mBackM, xup_s, hge 62 (by decide) (by omega), hge 66 (by decide) (by omega)]
    have hxx : ∀ a, a ≠ 0 → (a < 17 ∨ 27 ≤ a ∨ a % 2 = 0) → a ≠ 59 → a ≠ 62 → mBackM J ic il a = I a := fun a q0 q1 q2 q3 => by rw [hx a q2 q3]; exact hge a q0 q1
    have hq : ∀ i, i < 5 → ∀ y, y < 6 → mBackM J ic il 62 (6 * i + y) = I 66 (6 * i + y) := fun i hi y hy => by rw [h62, cp3, if_pos (by omega)]
    refine ⟨_, _, _, a, b, ic, tc, il, S, sz, n, ?_⟩
    refine ⟨cOK_of hK (by rw [hx 0 (by decide) (by decide)]; exact h010) (by omega) (by rw [hx 0 (by decide) (by decide), h0 11 (by decide) (by decide)]) (by rw [hx 0 (by decide) (by decide)]; exact h012) i7 (fun a h1 h2 => hxx a (by omega) (by omega) (by omega) (by omega)) (fun i hi => ?_), mOK_of hM (by rw [mBackM, xup_n _ _ (by decide), xw_k _ _ _ (by decide), xw_s]) (by omega) (h59 8 (by decide) (by decide)) (by rw [mBackM, xup_n _ _ (by decide), xw_s]) i7 (hxx _ (by decide) (by omega) (by decide) (by decide)) (hxx _ (by decide) (by omega) (by decide) (by decide)) (fun i hi => by rw [hxx 61 (by decide) (by omega) (by decide) (by decide), hq i hi 5 (by decide)]; exact ⟨(hM.2.2.2.2 i hi).1, (hO2 i hi).1⟩), fun i hi => ?_, shRel_c hS (fun a h1 h2 => hxx a (by omega) (by omega) (by omega) (by omega)) (hxx _ (by decide) (by omega) (by decide) (by decide)) (hxx _ (by decide) (by omega) (by decide) (by decide)) (hxx _ (by decide) (by omega) (by decide) (by decide)), ?_, Or.inr ⟨ic, il, ?_, ?_, ?_, ?_, ?_, Nat.le_refl _, i7, fun i hi => ?_⟩, fun i hi => ?_, fun i hi => ?_, fun j hj => by rw [hxx 71 (by decide) (by omega) (by decide) (by decide)]; exact hW j hj⟩
    · rw [hx _ (by omega) (by omega), h17 i hi]
      split
      · exact hO i hi
      · exact hK.2.2.2.2 i hi
    · rw [hx _ (by omega) (by omega), h17 i (by omega), if_pos hi, i8 i hi]
      have q0 := hq i (by omega) 0 (by decide)
      rw [Nat.add_zero] at q0
      unfold mRow iRow
      rw [q0, hq i (by omega) 1 (by decide), hq i (by omega) 2 (by decide), hq i (by omega) 3 (by decide), hq i (by omega) 4 (by decide), hq i (by omega) 5 (by decide), hxx 60 (by decide) (by omega) (by decide) (by decide), hxx 61 (by decide) (by omega) (by decide) (by decide)]
    · obtain ⟨t1, t2, t3, t4, t5⟩ := hT
      exact ⟨by rw [hxx 11 (by decide) (by omega) (by decide) (by decide)]; exact t1, t2, (h59 5 (by decide) (by decide)).trans t3, by rw [hxx 12 (by decide) (by omega) (by decide) (by decide), hxx 63 (by decide) (by omega) (by decide) (by decide)]; exact t4, fun j hj => by rw [hxx 12 (by decide) (by omega) (by decide) (by decide)]; exact t5 j hj⟩
    · rw [hx 0 (by decide) (by decide), h0 13 (by decide) (by decide)]; exact i1
    · rw [hx 0 (by decide) (by decide), h0 14 (by decide) (by decide)]; exact i2
    · rw [h59 10 (by decide) (by decide)]; exact i3
    · rw [h59 11 (by decide) (by decide)]; exact i4
    · rw [h59 12 (by decide) (by decide)]; exact i5
    · rw [hxx _ (by omega) (by omega) (by omega) (by omega), i8 i hi]
      exact (iRow_c (hxx _ (by decide) (by omega) (by decide) (by decide)) (hxx _ (by decide) (by omega) (by decide) (by decide)) (hxx _ (by decide) (by omega) (by decide) (by decide))).symm
    · rw [hxx _ (by omega) (by omega) (by omega) (by omega)]; exact hO i hi
    · rw [hxx 66 (by decide) (by omega) (by decide) (by decide), hq i hi 2 (by decide)]
      exact ⟨(hO2 i hi).1, (hO2 i hi).2.1, (hO2 i hi).2.1⟩
theorem RL_sh {I J : xI} {hc tc ln : Nat} {S : Nat → xSay} {sz sz' : Nat → Nat} {n : Nat} (h : RL I hc tc ln S sz n) (ha : ∀ a, (a < 51 ∨ 60 ≤ a) → a ≠ 67 → a ≠ 68 → a ≠ 69 → J a = I a) (hk : ∀ k, k < 13 → J 59 k = I 59 k) (hS' : shRel J sz') : RL J hc tc ln S sz' n := by
  obtain ⟨hK, hM, hR, hS, hT, hI, hO, hO2, hW⟩ := h
  have h5 := hM.1.2
  have hL : ∀ a, a < 51 → J a = I a := fun a h1 => ha a (Or.inl h1) (by omega) (by omega) (by omega)
  have hG : ∀ a, 60 ≤ a → a < 67 → J a = I a := fun a h1 h2 => ha a (Or.inr h1) (by omega) (by omega) (by omega)
  refine ⟨cOK_of hK (by rw [hL 0 (by decide)]; exact hK.1.1) hK.1.2 (by rw [hL 0 (by decide)]) (by rw [hL 0 (by decide)]; exact hK.2.2.1.1) hK.2.2.1.2 (fun a h1 h2 => hL a h2) (fun i hi => by rw [hL _ (by omega)]; exact hK.2.2.2.2 i hi), mOK_of hM ((hk 0 (by decide)).trans hM.1.1) hM.1.2 (hk 8 (by decide)) ((hk 9 (by decide)).trans hM.2.2.1.1) hM.2.2.1.2 (hG _ (by decide) (by decide)) (hG _ (by decide) (by decide)) (fun i hi => by rw [hG 61 (by decide) (by decide), hG 62 (by decide) (by decide)]; exact hM.2.2.2.2 i hi), fun i hi => ?_, hS', ?_, imRel_c hI (Nat.le_refl _) (by rw [hL 0 (by decide)]) (by rw [hL 0 (by decide)]) (fun k h1 h2 => hk k h2) (fun i hi => hL _ (by omega)) (fun i hi => iRow_c (hG _ (by decide) (by decide)) (hG _ (by decide) (by decide)) (hG _ (by decide) (by decide))), fun i hi => by rw [hL _ (by omega)]; exact hO i hi, fun i hi => by rw [hG 66 (by decide) (by decide), hG 62 (by decide) (by decide)]; exact hO2 i hi, fun j hj => by rw [ha 71 (Or.inr (by decide)) (by decide) (by decide) (by decide)]; exact hW j hj⟩
  · rw [hL _ (by omega), mRow_c (hG _ (by decide) (by decide)) (hG _ (by decide) (by decide)) (hG _ (by decide) (by decide))]
    exact hR i hi
  · obtain ⟨t1, t2, t3, t4, t5⟩ := hT
    exact ⟨by rw [hL 11 (by decide)]; exact t1, t2, (hk 5 (by decide)).trans t3, by rw [hL 12 (by decide), hG 63 (by decide) (by decide)]; exact t4, fun j hj => by rw [hL 12 (by decide)]; exact t5 j hj⟩
/-- one sheet is another: sorts, sizes, cells -/
theorem shRel_1 {I J : xI} {sz : Nat → Nat} (h : shRel I sz) {q : Nat} (hq : q < 4) (ha : ∀ a, 51 ≤ a → a < 59 → a ≠ 51 + 2 * q → a ≠ 51 + 2 * q + 1 → J a = I a) (h67 : ∀ p, p < 4 → p ≠ q → J 67 p = I 67 p) (h68 : ∀ p, p < 4 → p ≠ q → J 68 p = I 68 p) (h69 : ∀ x, (x < 40 * q ∨ 40 * q + 40 ≤ x) → J 69 x = I 69 x) {z : Nat} (hz : z ≤ 40) (e1 : J (51 + 2 * q) 1 = J 67 q) (e2 : J (51 + 2 * q) 2 = nI z) (e3 : J 68 q = nI z) (e4 : ∀ k, k < 40 → J (51 + 2 * q + 1) k = J 69 (40 * q + k)) : shRel J (fun p => if p = q then z else sz p) := by
  intro p hp
  by_cases e : p = q
  · subst e
    simp only [if_true]
    exact ⟨e1, e2, e3, hz, e4⟩
  · simp only [if_neg e]
    obtain ⟨a1, a2, a3, a4, a5⟩ := h p hp
    refine ⟨?_, ?_, ?_, a4, fun k hk => ?_⟩
    · rw [ha _ (by omega) (by omega) (by omega) (by omega), h67 p hp e]; exact a1
    · rw [ha _ (by omega) (by omega) (by omega) (by omega)]; exact a2
    · rw [h68 p hp e]; exact a3
    · rw [ha _ (by omega) (by omega) (by omega) (by omega), h69 _ (by omega)]; exact a5 k hk
theorem s_sheet (l : Launch) (G : xG) {d : Nat} (nn : Nat) (hd : 42 ≤ d) {I : xI} (hr : RI I) (s sort n1 : Int32) : ∃ J J' v, XM l G d y_X_sheet b_X_sheet 4 (some .int) 0 0 xK0 [.ref (xg G 0), .int s, .int sort, .int n1] nn (xm G xYf I) (some (.int v)) nn (xm G xYf J) ∧ XM l G d y_Model_sheet b_Model_sheet 5 (some .int) 0 0 xK0 [.ref (xg G 59), .int s, .int sort, .int n1] nn (xm G xYf J) (some (.int v)) nn (xm G xYf J') ∧ RI J' := by
  obtain ⟨hc, tc, ln, S, sz, n, hRL⟩ := id hr
  obtain ⟨hK, hM, hR, hS, hT, hI, hO, hO2, hW⟩ := id hRL
  have h5 := hM.1.2
  have hsz : sOK I sz := fun q hq => ⟨(hS q hq).2.1, (hS q hq).2.2.2.1⟩
  have hmz : msOK I sz := fun q hq => ⟨(hS q hq).2.2.1, (hS q hq).2.2.2.1⟩
  have a := c_X_sheet l G (d := d) nn I (by omega) hc tc ln S hK s sort n1
  have hgo : ∀ q, q < 4 → ∀ (sort : Int32) (z : Nat), z ≤ 40 → RI (xup (xw (xw (shBegin I (51 + 2 * q) sort (nI z)) 67 q sort) 68 q (nI z)) 69 (zrg (40 * q) 40 ((shBegin I (51 + 2 * q) sort (nI z)) 69))) := by
    intro q hq sort z hz
    have hbd : xbd (nI z) 0 40 = nI z := by
      have z0 := (nI_nn (x := z) (by omega)).1
      have z1 : ¬ (40 : Int32) < nI z := fun y => absurd ((nI_ltI (a := 40) (by decide) (by omega)).mp y) (by omega)
      unfold xbd
      grind
    have hJ : ∀ x, x ≠ 51 + 2 * q → x ≠ 51 + 2 * q + 1 → shBegin I (51 + 2 * q) sort (nI z) x = I x := fun x h1 h2 => by rw [shBegin, xup_n _ _ h2, xw_row _ _ _ h1, xw_row _ _ _ h1]
    have hJ1 : shBegin I (51 + 2 * q) sort (nI z) (51 + 2 * q) 1 = sort := by rw [shBegin, xup_n _ _ (by omega), xw_k _ _ _ (by decide), xw_s]
    have hJ2 : shBegin I (51 + 2 * q) sort (nI z) (51 + 2 * q) 2 = nI z := by rw [shBegin, xup_n _ _ (by omega), xw_s, hbd]
    have hJ3 : ∀ k, k < 40 → shBegin I (51 + 2 * q) sort (nI z) (51 + 2 * q + 1) k = 0 := fun k hk => by rw [shBegin, xup_s, zrow, if_pos hk]
    generalize shBegin I (51 + 2 * q) sort (nI z) = J at *
    have hx : ∀ x, x ≠ 67 → x ≠ 68 → x ≠ 69 → (xup (xw (xw J 67 q sort) 68 q (nI z)) 69 (zrg (40 * q) 40 (J 69))) x = J x := fun x h1 h2 h3 => by rw [xup_n _ _ h3, xw_row _ _ _ h2, xw_row _ _ _ h1]
    refine ⟨hc, tc, ln, S, _, n, RL_sh hRL (fun x h1 h2 h3 h4 => by rw [hx x h2 h3 h4]; exact hJ x (by omega) (by omega)) (fun k hk => by rw [hx 59 (by decide) (by decide) (by decide), hJ 59 (by omega) (by omega)]) (shRel_1 hS hq (fun x h1 h2 h3 h4 => by rw [hx x (by omega) (by omega) (by omega)]; exact hJ x h3 h4) (fun p hp hne => by rw [xup_n _ _ (by decide), xw_row _ _ _ (by decide), xw_k _ _ _ hne, hJ 67 (by omega) (by omega)]) (fun p hp hne => by rw [xup_n _ _ (by decide), xw_k _ _ _ hne, xw_row _ _ _ (by decide), hJ 68 (by omega) (by omega)]) (fun x hx => by rw [xup_s, zrg, if_neg (by omega), hJ 69 (by omega) (by omega)]) hz ?_ ?_ ?_ (fun k hk => ?_))⟩
    · rw [hx _ (by omega) (by omega) (by omega), hJ1, xup_n _ _ (by decide), xw_row _ _ _ (by decide), xw_s]
    · rw [hx _ (by omega) (by omega) (by omega), hJ2]
    · rw [xup_n _ _ (by decide), xw_s]
    · rw [hx _ (by omega) (by omega) (by omega), hJ3 k hk, xup_s, zrg, if_pos (by omega)]
  by_cases h1 : xin s 0 3 = true ∧ xin sort (-1) 2 = true
  · obtain ⟨q, hq, rfl⟩ := cTop (n := 3) (by decide) h1.1
    by_cases hm : sort = -1
    · subst hm
      have e1 : mSheet I (nI q) (-1) n1 = shBegin I (51 + 2 * q) (-1) (nI 0) := by rw [mSheet, if_pos h1, if_pos rfl, nI_cl (by omega)]; rfl
      have ea : aSheet (nI q) (-1) n1 = 1 := by rw [aSheet, if_pos h1, if_pos rfl]
      rw [e1] at a
      have b := c_Model_sheet l G (d := d) nn (by omega) (shBegin I (51 + 2 * q) (-1) (nI 0)) hc tc ln S (mOK_cls hM (fun x hx => by rw [shBegin, xup_n _ _ (by omega), xw_row _ _ _ (by omega), xw_row _ _ _ (by omega)])) (nI q) (-1) n1
      rw [mSheetM, if_pos ea, nI_cl (by omega), if_pos rfl] at b
      exact ⟨_, _, _, a, b, hgo q (by omega) (-1) 0 (by decide)⟩
    · by_cases h40 : 40 < n1
      · have e1 : mSheet I (nI q) sort n1 = I := by rw [mSheet, if_pos h1, if_neg hm, if_pos h40]
        have ea : aSheet (nI q) sort n1 = -2 := by rw [aSheet, if_pos h1, if_neg hm, if_pos h40]
        rw [e1] at a
        have b := c_Model_sheet l G (d := d) nn (by omega) I hc tc ln S hM (nI q) sort n1
        rw [mSheetM, if_neg (by rw [ea]; decide)] at b
        exact ⟨I, I, _, a, b, hr⟩
      · by_cases h0 : n1 < 0
        · have e1 : mSheet I (nI q) sort n1 = I := by rw [mSheet, if_pos h1, if_neg hm, if_neg h40, if_pos h0]
          have ea : aSheet (nI q) sort n1 = -14 := by rw [aSheet, if_pos h1, if_neg hm, if_neg h40, if_pos h0]
          rw [e1] at a
          have b := c_Model_sheet l G (d := d) nn (by omega) I hc tc ln S hM (nI q) sort n1
          rw [mSheetM, if_neg (by rw [ea]; decide)] at b
          exact ⟨I, I, _, a, b, hr⟩
        · obtain ⟨z, hz, rfl⟩ := nI_of h0
          have hz40 : z ≤ 40 := Nat.le_of_not_lt (fun y => h40 (nI_lt y hz))
          have e1 : mSheet I (nI q) sort (nI z) = shBegin I (51 + 2 * q) sort (nI z) := by rw [mSheet, if_pos h1, if_neg hm, if_neg h40, if_neg h0, nI_cl (show q < 2 ^ 31 by omega)]
          have ea : aSheet (nI q) sort (nI z) = 1 := by rw [aSheet, if_pos h1, if_neg hm, if_neg h40, if_neg h0]
          rw [e1] at a
          have b := c_Model_sheet l G (d := d) nn (by omega) (shBegin I (51 + 2 * q) sort (nI z)) hc tc ln S (mOK_cls hM (fun x hx => by rw [shBegin, xup_n _ _ (by omega), xw_row _ _ _ (by omega), xw_row _ _ _ (by omega)])) (nI q) sort (nI z)
          rw [mSheetM, if_pos ea, nI_cl (show q < 2 ^ 31 by omega), if_neg hm] at b
          exact ⟨_, _, _, a, b, hgo q (by omega) sort z hz40⟩
  · have e1 : mSheet I s sort n1 = I := by rw [mSheet, if_neg h1]
    have ea : aSheet s sort n1 = -2 := by rw [aSheet, if_neg h1]
    rw [e1] at a
    have b := c_Model_sheet l G (d := d) nn (by omega) I hc tc ln S hM s sort n1
    rw [mSheetM, if_neg (by rw [ea]; decide)] at b
    exact ⟨I, I, _, a, b, hr⟩
