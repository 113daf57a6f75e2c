theorem mHead_ge {I : xI} {hc : Nat} {k m : Int32} (h5 : hc ≤ 5) : ∀ a, 59 ≤ a → mHead I hc k m a = I a := by
  intro a ha
  unfold mHead
  split
  · split
    · rfl
    · rw [xw_row _ _ _ (by omega), xup_n _ _ (by omega)]
  · rfl
theorem head_RL {I : xI} {hc tc ln : Nat} {S : Nat → xSay} {sz : Nat → Nat} {n : Nat} (hRL : RL I hc tc ln S sz n) (k m : Int32) : RL (mHeadM (mHead I hc k m) hc k m) (hbS hc k m) tc ln S sz n := by
  obtain ⟨hK, hM, hR, hS, hT, hI, hO, hO2, hW⟩ := id hRL
  have h5 := hM.1.2
  have hMJ := mOK_cls hM (J := mHead I hc k m) (fun a ha => mHead_ge h5 a ha)
  have hMF := mOK_head hMJ k m
  by_cases hk : xin k 0 5 = true ∧ xin m 0 9 = true
  · by_cases h5c : 5 ≤ hc
    · have e1 : mHead I hc k m = I := by rw [mHead, if_pos hk, if_pos h5c]
      have e2 : mHeadM I hc k m = I := by rw [mHeadM, if_pos hk, if_pos h5c]
      have e3 : hbS hc k m = hc := by rw [hbS, if_pos hk, if_pos h5c]
      rw [e1, e2, e3]
      exact hRL
    · have e1 : mHead I hc k m = xw (xup I (17 + 2 * hc) (hBegin k m (I (17 + 2 * hc)))) 0 10 (nI hc + 1) := by rw [mHead, if_pos hk, if_neg h5c]
      have e3 : hbS hc k m = hc + 1 := by rw [hbS, if_pos hk, if_neg h5c]
      generalize hJ : mHead I hc k m = J at *
      have e2 : mHeadM J hc k m = xw (xup (xw (xw J 60 hc k) 61 hc m) 62 (zrg (6 * hc) 6 (J 62))) 59 0 (nI hc + 1) := by rw [mHeadM, if_pos hk, if_neg h5c]
      have hge : ∀ a, 59 ≤ a → J a = I a := fun a ha => by rw [← hJ]; exact mHead_ge h5 a ha
      have hcl : ∀ a, a < 59 → a ≠ 0 → a ≠ 17 + 2 * hc → mHeadM J hc k m a = I a := fun a h1 h2 h3 => by rw [mHead_o (by omega) (by omega) (by omega) (by omega), e1, xw_row _ _ _ h2, xup_n _ _ h3]
      have hmd : ∀ a, 59 ≤ a → a ≠ 59 → a ≠ 60 → a ≠ 61 → a ≠ 62 → mHeadM J hc k m a = I a := fun a h0 h1 h2 h3 h4 => by rw [mHead_o h1 h2 h3 h4]; exact hge a h0
      have h0 : mHeadM J hc k m 0 = J 0 := mHead_o (by decide) (by decide) (by decide) (by decide)
      have h0j : ∀ j, j ≠ 10 → J 0 j = I 0 j := fun j hj => by rw [e1, xw_k _ _ _ hj, xup_n _ _ (by omega)]
      have h17 : mHeadM J hc k m (17 + 2 * hc) = hBegin k m (I (17 + 2 * hc)) := by rw [mHead_o (by omega) (by omega) (by omega) (by omega), e1, xw_row _ _ _ (by omega), xup_s]
      have h59 : ∀ j, j ≠ 0 → mHeadM J hc k m 59 j = I 59 j := fun j hj => by
        rw [e2, xw_k _ _ _ hj, xup_n _ _ (by decide), xw_row _ _ _ (by decide), xw_row _ _ _ (by decide), hge 59 (by decide)]
      have h60 : mHeadM J hc k m 60 = xup (I 60) hc k := by rw [e2, xw_row _ _ _ (by decide), xup_n _ _ (by decide), xw_row _ _ _ (by decide), xw_is, xup_s, hge 60 (by decide)]
      have h61 : mHeadM J hc k m 61 = xup (I 61) hc m := by rw [e2, xw_row _ _ _ (by decide), xup_n _ _ (by decide), xw_is, xup_s, xw_row _ _ _ (by decide), hge 61 (by decide)]
      have h62 : mHeadM J hc k m 62 = zrg (6 * hc) 6 (I 62) := by rw [e2, xw_row _ _ _ (by decide), xup_s, hge 62 (by decide)]
      have hz : ∀ y, y < 6 → mHeadM J hc k m 62 (6 * hc + y) = 0 := fun y hy => by rw [h62, zrg, if_pos (by omega)]
      have hnz : ∀ i, i ≠ hc → ∀ y, y < 6 → mHeadM J hc k m 62 (6 * i + y) = I 62 (6 * i + y) := fun i hi y hy => by rw [h62, zrg, if_neg (by omega)]
      have hrowo : ∀ i, i ≠ hc → mRow (mHeadM J hc k m) i = mRow I i := fun i hi => by
        have q0 := hnz i hi 0 (by decide)
        rw [Nat.add_zero] at q0
        unfold mRow
        rw [h60, h61, xup_n _ _ hi, xup_n _ _ hi, q0, hnz i hi 1 (by decide), hnz i hi 2 (by decide), hnz i hi 3 (by decide), hnz i hi 4 (by decide), hnz i hi 5 (by decide)]
      have hb8 : ∀ j, 8 ≤ j → hBegin k m (I (17 + 2 * hc)) j = 0 := fun j hj => by
        simp only [hBegin, hStd]
        rw [xup_n _ _ (by omega), xup_n _ _ (by omega), xup_n _ _ (by omega), xup_n _ _ (by omega), xup_n _ _ (by omega), xup_n _ _ (by omega), xup_n _ _ (by omega), xup_n _ _ (by omega)]
        exact (hK.2.2.2.2 hc (by omega)).2 j hj
      have hrow : mRow (mHeadM J hc k m) hc = hBegin k m (I (17 + 2 * hc)) := by
        funext j
        by_cases h8 : 8 ≤ j
        · rw [mRow_8 _ _ j h8, hb8 j h8]
        · have hj : j = 0 ∨ j = 1 ∨ j = 2 ∨ j = 3 ∨ j = 4 ∨ j = 5 ∨ j = 6 ∨ j = 7 := by omega
          rcases hj with rfl | rfl | rfl | rfl | rfl | rfl | rfl | rfl
          · show mHeadM J hc k m 60 hc = k; rw [h60, xup_s]
          · show mHeadM J hc k m 61 hc = m; rw [h61, xup_s]
          · exact hz 0 (by decide)
          · exact hz 1 (by decide)
          · exact hz 2 (by decide)
          · exact hz 3 (by decide)
          · exact hz 4 (by decide)
          · exact hz 5 (by decide)
      rw [e3] at hMF ⊢
      refine ⟨cOK_of hK (by rw [h0, e1, xw_s, nI_1]) (by omega) (by rw [h0]; exact h0j 11 (by decide)) (by rw [h0, h0j 12 (by decide)]; exact hK.2.2.1.1) hK.2.2.1.2 (fun a h1 h2 => hcl a (by omega) (by omega) (by omega)) (fun i hi => ?_), hMF, fun i hi => ?_, shRel_c hS (fun a h1 h2 => hcl a (by omega) (by omega) (by omega)) (hmd _ (by decide) (by decide) (by decide) (by decide) (by decide)) (hmd _ (by decide) (by decide) (by decide) (by decide) (by decide)) (hmd _ (by decide) (by decide) (by decide) (by decide) (by decide)), ?_, imRel_c hI (by omega) (by rw [h0]; exact h0j 13 (by decide)) (by rw [h0]; exact h0j 14 (by decide)) (fun j h1 h2 => h59 j (by omega)) (fun i hi => hcl _ (by omega) (by omega) (by omega)) (fun i hi => ?_), fun i hi => by rw [hcl _ (by omega) (by omega) (by omega)]; exact hO i hi, fun i hi => ?_, fun j hj => by rw [hmd 71 (by decide) (by decide) (by decide) (by decide) (by decide)]; exact hW j hj⟩
      · by_cases e : i = hc
        · subst e; rw [h17]; exact ⟨Or.inl rfl, hb8⟩
        · rw [hcl _ (by omega) (by omega) (by omega)]; exact hK.2.2.2.2 i hi
      · by_cases e : i = hc
        · subst e; rw [h17, hrow]
        · rw [hcl _ (by omega) (by omega) (by omega), hrowo i e]; exact hR i (by omega)
      · obtain ⟨t1, t2, t3, t4, t5⟩ := hT
        exact ⟨by rw [hcl 11 (by decide) (by decide) (by omega)]; exact t1, t2, (h59 5 (by decide)).trans t3, by rw [hcl 12 (by decide) (by decide) (by omega), hmd 63 (by decide) (by decide) (by decide) (by decide) (by decide)]; exact t4, fun j hj => by rw [hcl 12 (by decide) (by decide) (by omega)]; exact t5 j hj⟩
      · unfold iRow
        rw [h60, h61, hmd 66 (by decide) (by decide) (by decide) (by decide) (by decide), xup_n _ _ (by omega), xup_n _ _ (by omega)]
      · rw [hmd 66 (by decide) (by decide) (by decide) (by decide) (by decide)]
        refine ⟨(hO2 i hi).1, (hO2 i hi).2.1, ?_⟩
        by_cases e : i = hc
        · subst e; rw [hz 2 (by decide)]; decide
        · rw [hnz i e 2 (by decide)]; exact (hO2 i hi).2.2
  · have e1 : mHead I hc k m = I := by rw [mHead, if_neg hk]
    have e2 : mHeadM I hc k m = I := by rw [mHeadM, if_neg hk]
    have e3 : hbS hc k m = hc := by rw [hbS, if_neg hk]
    rw [e1, e2, e3]
    exact hRL
theorem s_head (l : Launch) (G : xG) {d : Nat} (nn : Nat) (hd : 42 ≤ d) {I : xI} (hr : RI I) (k m : Int32) : ∃ J J' v, XM l G d y_X_head b_X_head 3 (some .int) 0 0 xK0 [.ref (xg G 0), .int k, .int m] nn (xm G xYf I) (some (.int v)) nn (xm G xYf J) ∧ XM l G d y_Model_head b_Model_head 4 (some .int) 0 0 xK0 [.ref (xg G 59), .int k, .int m] nn (xm G xYf J) (some (.int v)) nn (xm G xYf J') ∧ RI J' := by
  obtain ⟨hc, tc, ln, S, sz, n, hRL⟩ := id hr
  obtain ⟨hK, hM, hR, hS, hT, hI, hO, hO2, hW⟩ := id hRL
  have h5 := hM.1.2
  have hsz : sOK I sz := fun q hq => ⟨(hS q hq).2.1, (hS q hq).2.2.2.1⟩
  have hmz : msOK I sz := fun q hq => ⟨(hS q hq).2.2.1, (hS q hq).2.2.2.1⟩
  have a := c_X_head l G (d := d) nn I (by omega) hc tc ln S hK k m
  have b := c_Model_head l G (d := d) nn (by omega) (mHead I hc k m) hc tc ln S (mOK_cls hM (fun x hx => mHead_ge h5 x hx)) k m
  exact ⟨_, _, _, a, b, _, tc, ln, S, sz, n, head_RL hRL k m⟩
theorem s_image (l : Launch) (G : xG) {d : Nat} (nn : Nat) (hd : 42 ≤ d) {I : xI} (hr : RI I) : ∃ J J' v, XM l G d y_X_image b_X_image 2 (some .int) 0 0 xK0 [.ref (xg G 0)] nn (xm G xYf I) (some (.int v)) nn (xm G xYf J) ∧ XM l G d y_Model_image b_Model_image 2 (some .int) 0 0 xK0 [.ref (xg G 59)] nn (xm G xYf J) (some (.int v)) nn (xm G xYf J') ∧ RI J' := by
  obtain ⟨hc, tc, ln, S, sz, n, hRL⟩ := id hr
  obtain ⟨hK, hM, hR, hS, hT, hI, hO, hO2, hW⟩ := id hRL
  have h5 := hM.1.2
  have hsz : sOK I sz := fun q hq => ⟨(hS q hq).2.1, (hS q hq).2.2.2.1⟩
  have hmz : msOK I sz := fun q hq => ⟨(hS q hq).2.2.1, (hS q hq).2.2.2.1⟩
  have a := c_X_image l G (d := d) nn I (by omega) hc tc ln S hK hO
  have hcp : ∀ a, (a < 18 ∨ 28 ≤ a ∨ a % 2 = 1) → cpI I hc a = I a := fun a ha => if_neg (by omega)
  have hge : ∀ a, a ≠ 0 → (a < 18 ∨ 28 ≤ a ∨ a % 2 = 1) → mImage I hc ln a = I a := fun a h0 ha => by rw [mImage, xw_row _ _ _ h0, xw_row _ _ _ h0]; exact hcp a ha
  have hMJ := mOK_cls hM (J := mImage I hc ln) (fun x hx => hge x (by omega) (by omega))
  have b := c_Model_image l G (d := d) nn (by omega) (mImage I hc ln) hc tc ln S hMJ
  generalize hJ : mImage I hc ln = J at *
  have hx : ∀ a, a ≠ 59 → a ≠ 66 → mImageM J hc ln a = J a := fun a h1 h2 => by rw [mImageM, xup_n _ _ h2, xw_row _ _ _ h1, xw_row _ _ _ h1, xw_row _ _ _ h1]
  have h59 : ∀ k, k < 10 → mImageM J hc ln 59 k = I 59 k := fun k hk => by rw [mImageM, xup_n _ _ (by decide), xw_k _ _ _ (by omega), xw_k _ _ _ (by omega), xw_k _ _ _ (by omega), hge 59 (by decide) (by omega)]
  have h66 : mImageM J hc ln 66 = cp3 30 (I 62) (I 66) := by rw [mImageM, xup_s, hge 62 (by decide) (by omega), hge 66 (by decide) (by omega)]
  have h0 : ∀ k, k ≠ 13 → k ≠ 14 → J 0 k = I 0 k := fun k h1 h2 => by rw [← hJ, mImage, xw_k _ _ _ h2, xw_k _ _ _ h1, hcp 0 (by omega)]
  have h18 : ∀ i, i < 5 → J (18 + 2 * i) = if i < hc then I (17 + 2 * i) else I (18 + 2 * i) := fun i hi => by
    rw [← hJ, mImage, xw_row _ _ _ (by omega), xw_row _ _ _ (by omega), cpI]
    by_cases hh : i < hc
    · rw [if_pos (by omega), if_pos hh, show 18 + 2 * i - 1 = 17 + 2 * i by omega]
    · rw [if_neg (by omega), if_neg hh]
  have hxx : ∀ a, a ≠ 0 → (a < 18 ∨ 28 ≤ a ∨ a % 2 = 1) → a ≠ 59 → a ≠ 66 → mImageM J hc ln a = I a := fun a q0 q1 q2 q3 => by rw [hx a q2 q3]; exact hge a q0 q1
  refine ⟨_, _, _, a, b, hc, tc, ln, S, sz, n, ?_⟩
  refine ⟨cOK_of hK (by rw [hx 0 (by decide) (by decide), h0 10 (by decide) (by decide)]; exact hK.1.1) hK.1.2 (by rw [hx 0 (by decide) (by decide), h0 11 (by decide) (by decide)]) (by rw [hx 0 (by decide) (by decide), h0 12 (by decide) (by decide)]; exact hK.2.2.1.1) hK.2.2.1.2 (fun a h1 h2 => ?_) (fun i hi => by rw [hxx _ (by omega) (by omega) (by omega) (by omega)]; exact hK.2.2.2.2 i hi), mOK_of hM ((h59 0 (by decide)).trans hM.1.1) hM.1.2 (h59 8 (by decide)) ((h59 9 (by decide)).trans hM.2.2.1.1) hM.2.2.1.2 (hxx _ (by decide) (by omega) (by decide) (by decide)) (hxx _ (by decide) (by omega) (by decide) (by decide)) (fun i hi => by rw [hxx 61 (by decide) (by omega) (by decide) (by decide), hxx 62 (by decide) (by omega) (by decide) (by decide)]; exact hM.2.2.2.2 i hi), fun i hi => ?_, shRel_c hS (fun a h1 h2 => hxx a (by omega) (by omega) (by omega) (by omega)) (hxx _ (by decide) (by omega) (by decide) (by decide)) (hxx _ (by decide) (by omega) (by decide) (by decide)) (hxx _ (by decide) (by omega) (by decide) (by decide)), ?_, Or.inr ⟨hc, ln, ?_, ?_, ?_, ?_, ?_, Nat.le_refl _, hM.2.2.1.2, fun i hi => ?_⟩, fun i hi => ?_, fun i hi => ?_, fun j hj => by rw [hxx 71 (by decide) (by omega) (by decide) (by decide)]; exact hW j hj⟩
  · by_cases hev : a < 28 ∧ a % 2 = 0
    · omega
    · exact hxx a (by omega) (by omega) (by omega) (by omega)
  · rw [hxx _ (by omega) (by omega) (by omega) (by omega), mRow_c (hxx _ (by decide) (by omega) (by decide) (by decide)) (hxx _ (by decide) (by omega) (by decide) (by decide)) (hxx _ (by decide) (by omega) (by decide) (by decide))]
    exact hR i hi
  · obtain ⟨t1, t2, t3, t4, t5⟩ := hT
    exact ⟨by rw [hxx 11 (by decide) (by omega) (by decide) (by decide)]; exact t1, t2, (h59 5 (by decide)).trans t3, by rw [hxx 12 (by decide) (by omega) (by decide) (by decide), hxx 63 (by decide) (by omega) (by decide) (by decide)]; exact t4, fun j hj => by rw [hxx 12 (by decide) (by omega) (by decide) (by decide)]; exact t5 j hj⟩
  · rw [hx 0 (by decide) (by decide), ← hJ, mImage, xw_k _ _ _ (by decide), xw_s]
  · rw [hx 0 (by decide) (by decide), ← hJ, mImage, xw_s]
  · rw [mImageM, xup_n _ _ (by decide), xw_k _ _ _ (by decide), xw_k _ _ _ (by decide), xw_s]
  · rw [mImageM, xup_n _ _ (by decide), xw_k _ _ _ (by decide), xw_s]
  · rw [mImageM, xup_n _ _ (by decide), xw_s]
  · rw [hx _ (by omega) (by omega), h18 i (by omega), if_pos hi, hR i hi]
    have q : ∀ y, y < 6 → mImageM J hc ln 66 (6 * i + y) = I 62 (6 * i + y) := fun y hy => by rw [h66, cp3, if_pos (by omega)]
    have q0 := q 0 (by decide)
    rw [Nat.add_zero] at q0
    unfold mRow iRow
    rw [q0, q 1 (by decide), q 2 (by decide), q 3 (by decide), q 4 (by decide), q 5 (by decide), hxx 60 (by decide) (by omega) (by decide) (by decide), hxx 61 (by decide) (by omega) (by decide) (by decide)]
  · rw [hx _ (by omega) (by omega), h18 i hi]
    split
    · exact hK.2.2.2.2 i hi
    · exact hO i hi
  · rw [hxx 62 (by decide) (by omega) (by decide) (by decide), h66, cp3, cp3, if_pos (by omega), if_pos (by omega)]
    exact ⟨(hM.2.2.2.2 i hi).2, (hO2 i hi).2.2, (hO2 i hi).2.2⟩
