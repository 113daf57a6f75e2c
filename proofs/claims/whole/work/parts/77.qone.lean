theorem hSide_pos {k : Nat} (h1 : 1 ≤ k) (hk : k < 2 ^ 31) : hSide (nI k) = 1 := by
  rw [hSide, if_pos (show (0 : Int32) < nI k from (show nI 0 < nI k from nI_lt h1 hk))]
theorem neg_n {k : Nat} (hk : k < 1000) : -(nI k) = nI 0 - nI k := by
  rw [show nI 0 = 0 from rfl, Int32.zero_sub]
theorem hSide_neg {k : Nat} (hk : k < 1000) : hSide (-(nI k)) = -1 := by
  have h : ∀ k, k < 1000 → ¬ (0 : Int32) < -(nI k) := by
    intro k hk h
    have h0 : (0 : Int32) ≤ nI k := Int32.not_lt.mp (nI_pos (by omega))
    rw [Int32.lt_iff_toInt_lt] at h
    rw [Int32.le_iff_toInt_le] at h0
    have e : (nI k).toInt = k := nI_toInt (by omega)
    have e2 : (-(nI k)).toInt = -(nI k).toInt := by
      rw [Int32.toInt_neg, e, Int.bmod_def]
      omega
    rw [e2, e] at h
    simp at h
    omega
  rw [hSide, if_neg (h k hk)]
theorem xabs_cl {k : Nat} (hk : k < 1000) : (xabs (nI k)).toNatClampNeg = k ∧ (xabs (-(nI k))).toNatClampNeg = k := by
  rw [xabs_n (by omega), xabs_neg (by omega), nI_cl (by omega)]
  exact ⟨rfl, rfl⟩
theorem hSpin_p (S : xSay) (sp : Int32) (f : Nat → Int32) {k : Nat} (hk : k < 1000) : hSpin S (nI k) sp f = hSpinN S sp 1 k f := by
  rw [hSpin, (xabs_cl hk).1]
  cases k with
  | zero => rfl
  | succ k => rw [hSide_pos (by omega) (by omega)]
theorem hSpin_m (S : xSay) (sp : Int32) (f : Nat → Int32) {k : Nat} (hk : k < 1000) : hSpin S (-(nI k)) sp f = hSpinN S sp (-1) k f := by
  rw [hSpin, (xabs_cl hk).2, hSide_neg hk]
theorem uSp_n (S : xSay) (sp : Int32) (F : Nat → Int32) {k : Nat} (hk : k < 1000) : uSp S sp F k = hSpinN S sp (if 0 < F 2 then -1 else 1) k F := by
  unfold uSp
  by_cases h : 0 < F 2
  · rw [if_pos h, if_pos h, hSpin_m S sp F hk]
  · rw [if_neg h, if_neg h, hSpin_p S sp F hk]
theorem undo_eq (L : xSay) (sp sd : Int32) (F : Nat → Int32) (V : Nat → Int32) (hV : ∀ k, k < 1000 → V k = xabs (hSpinN L sp sd k F 2)) : ∀ (r k : Nat) (b l : Int32), 1 ≤ k → k + r < 1000 → ¬ b = -1 → sBest (undoC V) nI V r k b l = sUndo L sp sd r k b l (hSpinN L sp sd (k - 1) F)
  | 0, _, _, _, _, _, _ => rfl
  | r + 1, k, b, l, h1, hk, hb => by
    have e1 : hSpin1 L sp sd (hSpinN L sp sd (k - 1) F) = hSpinN L sp sd k F := by rw [show k = (k - 1) + 1 by omega]; rfl
    have hn : ¬ nI k = -1 := fun z => absurd z (by
      intro z
      have h0 : (0 : Int32) ≤ nI k := Int32.not_lt.mp (nI_pos (by omega))
      rw [z] at h0
      exact absurd h0 (by decide))
    rw [sBest, sUndo, e1]
    by_cases hc : xabs (hSpinN L sp sd k F 2) < l
    · rw [if_pos hc, if_pos (by rw [undoC, hV k (by omega), decide_eq_true hc, Bool.or_true])]
      have := undo_eq L sp sd F V hV r (k + 1) (nI k) (V k) (by omega) (by omega) hn
      rw [this, hV k (by omega), Nat.add_sub_cancel]
    · rw [if_neg hc, if_neg (by rw [undoC, hV k (by omega), decide_eq_false hc, decide_eq_false hb]; decide)]
      have := undo_eq L sp sd F V hV r (k + 1) b l (by omega) (by omega) hb
      rw [this, Nat.add_sub_cancel]
theorem q_undo (hc : Nat) (L : xSay) (R : Nat → Nat → Int32) (h sp what : Int32) : aUndoM hc L R h sp what = aUndo hc L R h sp what := by
  unfold aUndoM aUndo
  by_cases h1 : xin h 0 (nI hc - 1) = true
  · rw [if_pos h1, if_pos h1]
    by_cases h2 : xin sp 1 9 = true ∧ xin what 0 1 = true
    · rw [if_pos h2, if_pos h2]
      generalize hStd (R h.toNatClampNeg) = F
      have hV : ∀ k, k < 1000 → (fun k => xabs (uSp L sp F k 2)) k = xabs (hSpinN L sp (if 0 < F 2 then -1 else 1) k F 2) := fun k hk => by
        show xabs (uSp L sp F k 2) = _
        rw [uSp_n L sp F hk]
      have e0 : (fun k => xabs (uSp L sp F k 2)) 0 = xabs (F 2) := hV 0 (by decide)
      rw [show (41 - 0 : Nat) = 40 + 1 from rfl, sBest_y (by rw [undoC]; rfl), undo_eq L sp _ F _ hV 40 1 _ _ (by decide) (by decide) (by decide)]
      have e1 : xabs (uSp L sp F 0 2) = xabs (F 2) := e0
      rw [e1]
      rfl
    · rw [if_neg h2, if_neg h2]
  · rw [if_neg h1, if_neg h1]
/-- the race -/
theorem sRaceW_r (L : xSay) (sec : Nat) (pace wide : Int32) : ∀ (r k : Nat) (b : Nat → Int32), k + r ≤ 61 → sRaceW L sec pace wide r k b = -1 ∨ ∃ j, j ≤ 60 ∧ sRaceW L sec pace wide r k b = nI j
  | 0, _, _, _ => Or.inl rfl
  | r + 1, k, b, h => by
    rw [sRaceW]
    split
    · exact Or.inr ⟨k, by omega, rfl⟩
    · exact sRaceW_r L sec pace wide r (k + 1) _ (by omega)
theorem race_eq (L : xSay) (n sp fw q what : Int32) (F : Nat → Int32) (hq : rcQ sp fw = q) : ∀ (r k : Nat), k + r ≤ 61 → rcS (rcT L n sp fw F) (fw - fw / 1000 * 1000) q what r k = (if sRaceW L q.toNatClampNeg (sp - sp / 10 * 10) (fw - fw / 1000 * 1000) r k (hLing L 1 k (hSpin L n (sp / 10) (hStd F))) < 0 ∨ what = 0 then sRaceW L q.toNatClampNeg (sp - sp / 10 * 10) (fw - fw / 1000 * 1000) r k (hLing L 1 k (hSpin L n (sp / 10) (hStd F))) else sRaceW L q.toNatClampNeg (sp - sp / 10 * 10) (fw - fw / 1000 * 1000) r k (hLing L 1 k (hSpin L n (sp / 10) (hStd F))) + q)
  | 0, _, _ => by rw [rcS, sRaceW, if_pos (Or.inl (by decide))]
  | r + 1, k, h => by
    have eT : rcT L n sp fw F k = hGo L (sp - sp / 10 * 10) 1 q.toNatClampNeg (hLing L 1 k (hSpin L n (sp / 10) (hStd F))) := by rw [rcT, hq, tTry, nI_cl (by omega)]
    rw [rcS, sRaceW, eT]
    by_cases hcd : hGo L (sp - sp / 10 * 10) 1 q.toNatClampNeg (hLing L 1 k (hSpin L n (sp / 10) (hStd F))) 7 = 0 ∧ xabs (hGo L (sp - sp / 10 * 10) 1 q.toNatClampNeg (hLing L 1 k (hSpin L n (sp / 10) (hStd F))) 6) ≤ fw - fw / 1000 * 1000
    · rw [if_pos hcd, if_pos hcd]
      have hn := nI_pos (n := k) (by omega)
      by_cases hw : what = 0
      · rw [if_pos hw, if_pos (Or.inr hw)]
      · rw [if_neg hw, if_neg (fun z => z.elim hn hw)]
    · rw [if_neg hcd, if_neg hcd]
      exact race_eq L n sp fw q what F hq r (k + 1) (by omega)
theorem rcQ_x {sp fw : Int32} (h : ¬ sp - sp / 10 * 10 < 1) : xru (fw / 1000) (sp - sp / 10 * 10) = rcQ sp fw := by rw [xru, if_neg h, rcQ]
theorem xsp_1 {sp : Int32} (h : xsp sp = true) : ¬ sp - sp / 10 * 10 < 1 := by
  obtain ⟨a, b, rfl, ha, hb, hb0, e2, e1, -⟩ := xsp_p h
  rw [e2]
  exact fun z => absurd ((nI_ltI (b := 1) (by omega) (by decide)).mp z) (by omega)
theorem xrace_sp {n sp fw what : Int32} (h : xrace n sp fw what = true) : xsp sp = true ∧ (what = 0 ∨ what = 1) := by
  rw [xrace, Bool.and_eq_true, Bool.and_eq_true, Bool.and_eq_true] at h
  refine ⟨h.1.1.2, ?_⟩
  obtain ⟨i, hi, rfl⟩ := cTop (n := 1) (by decide) h.2
  have : i = 0 ∨ i = 1 := by omega
  rcases this with rfl | rfl
  · exact Or.inl rfl
  · exact Or.inr rfl
theorem mRc_eq {L : xSay} {n sp fw what0 : Int32} (hx : xrace n sp fw what0 = true) (what : Int32) (F : Nat → Int32) : mRc L n sp fw what F = (if rRaceW L n sp fw F < 0 ∨ what = 0 then rRaceW L n sp fw F else rRaceW L n sp fw F + rcQ sp fw) ∧ (rRaceW L n sp fw F = -1 ∨ ∃ j m, j ≤ 60 ∧ m ≤ 60 ∧ rRaceW L n sp fw F = nI j ∧ rcQ sp fw = nI m) := by
  have hok := xrace_ok hx
  have hq := rcQ_x (fw := fw) (xsp_1 (xrace_sp hx).1)
  have h0 : 0 ≤ rcQ sp fw := Int32.not_lt.mp hok.2.2.2
  unfold mRc rRaceW
  rw [hq]
  by_cases h6 : 60 < rcQ sp fw
  · have hn : ¬ xin (rcQ sp fw) 0 60 = true := fun z => by rw [xin_iff] at z; exact absurd h6 (Int32.not_lt.mpr z.2)
    rw [show rcN (rcQ sp fw) = 0 from if_pos h6, if_neg hn, rcS, if_pos (Or.inl (by decide))]
    exact ⟨rfl, Or.inl rfl⟩
  · have hy : xin (rcQ sp fw) 0 60 = true := xin_iff.mpr ⟨h0, Int32.not_lt.mp h6⟩
    rw [show rcN (rcQ sp fw) = 61 from if_neg h6, if_pos hy]
    refine ⟨race_eq L n sp fw _ what F rfl 61 0 (by decide), ?_⟩
    obtain ⟨m, hm, e⟩ := cTop (n := 60) (by decide) hy
    rcases sRaceW_r L (rcQ sp fw).toNatClampNeg (sp - sp / 10 * 10) (fw - fw / 1000 * 1000) 61 0 (hSpin L n (sp / 10) (hStd F)) (by decide) with z | ⟨j, hj, z⟩
    · exact Or.inl z
    · exact Or.inr ⟨j, m, hj, hm, z, e⟩
theorem q_race (hc : Nat) (L : xSay) (R : Nat → Nat → Int32) (h n sp fw what : Int32) : aRaceM hc L R h n sp fw what = aRace hc L R h n sp fw what := by
  unfold aRaceM aRace
  by_cases h1 : xin h 0 (nI hc - 1) = true
  · rw [if_pos h1, if_pos h1]
    by_cases h2 : xrace n sp fw what = true
    · rw [if_pos h2, if_pos h2, (mRc_eq h2 what _).1, rcQ_x (xsp_1 (xrace_sp h2).1)]
    · rw [if_neg h2, if_neg h2]
  · rw [if_neg h1, if_neg h1]
theorem wins_eq (W V : Nat → Int32) (q : Int32) (hV : ∀ h, V h = if W h < 0 then W h else W h + q) (hW : ∀ h, W h = -1 ∨ ∃ j m, j ≤ 60 ∧ m ≤ 60 ∧ W h = nI j ∧ q = nI m) : ∀ (r k : Nat) (b lc lm : Int32), k + r ≤ 5 → ((b = -1 ∧ lc = -1 ∧ lm = -1) ∨ (∃ a j m, b = nI j ∧ j ≤ 5 ∧ lc = nI a ∧ lm = nI (a + m) ∧ a ≤ 60 ∧ m ≤ 60 ∧ q = nI m)) → (((sBest (winC V) nI V r k b lm).1 = -1 ∧ (sWins W r k b lc).1 = -1 ∧ (sBest (winC V) nI V r k b lm).2 = -1) ∨ (∃ j, j ≤ 5 ∧ (sBest (winC V) nI V r k b lm).1 = nI j ∧ (sWins W r k b lc).1 = nI j ∧ (sBest (winC V) nI V r k b lm).2 = (sWins W r k b lc).2 + q))
  | 0, k, b, lc, lm, _, h => by
    rw [sBest, sWins]
    rcases h with ⟨h1, h2, h3⟩ | ⟨a, j, m, h1, h2, h3, h4, h5, h6, h7⟩
    · exact Or.inl ⟨h1, h1, h3⟩
    · exact Or.inr ⟨j, h2, h1, h1, by rw [h3, h4, h7, nI_add]⟩
  | r + 1, k, b, lc, lm, hk, h => by
    rw [sBest, sWins]
    have hnn : ∀ x : Nat, x < 1000 → ¬ nI x < 0 ∧ ¬ nI x = -1 ∧ 0 ≤ nI x := fun x hx => by
      have h0 := nI_pos (n := x) (by omega)
      exact ⟨h0, fun z => h0 (by rw [z]; decide), Int32.not_lt.mp h0⟩
    rcases hW k with w | ⟨j, m, hj, hm, w, hq⟩
    · have v : V k = -1 := by rw [hV, w, if_pos (by decide)]
      rw [if_neg (show ¬ winC V k b lm = true by rw [winC, v]; simp), if_neg (show ¬ (0 ≤ W k ∧ (b < 0 ∨ W k < lc)) from fun z => by rw [w] at z; exact absurd z.1 (by decide))]
      exact wins_eq W V q hV hW r (k + 1) b lc lm (by omega) h
    · have w0 := hnn j (by omega)
      have v : V k = nI (j + m) := by rw [hV, w, if_neg w0.1, hq, nI_add]
      have v1 := hnn (j + m) (by omega)
      rcases h with ⟨h1, h2, h3⟩ | ⟨a, j2, m2, h1, h2, h3, h4, h5, h6, h7⟩
      · rw [if_pos (show winC V k b lm = true by rw [winC, v, h1, decide_eq_false v1.2.1]; rfl), if_pos (show 0 ≤ W k ∧ (b < 0 ∨ W k < lc) from ⟨by rw [w]; exact w0.2.2, Or.inl (by rw [h1]; decide)⟩)]
        exact wins_eq W V q hV hW r (k + 1) (nI k) (W k) (V k) (by omega) (Or.inr ⟨j, k, m, rfl, by omega, w, v, hj, hm, hq⟩)
      · have hmm : m = m2 := (nI_eq (a := m) (b := m2) (by omega) (by omega)).mp (hq.symm.trans h7)
        subst hmm
        have b1 := hnn j2 (by omega)
        by_cases hlt : j < a
        · rw [if_pos (show winC V k b lm = true by rw [winC, v, h4, decide_eq_false v1.2.1, decide_eq_true ((nI_ltI (a := j + m) (b := a + m) (by omega) (by omega)).mpr (by omega)), Bool.or_true]; rfl), if_pos (show 0 ≤ W k ∧ (b < 0 ∨ W k < lc) from ⟨by rw [w]; exact w0.2.2, Or.inr (by rw [w, h3]; exact nI_lt hlt (by omega))⟩)]
          exact wins_eq W V q hV hW r (k + 1) (nI k) (W k) (V k) (by omega) (Or.inr ⟨j, k, m, rfl, by omega, w, v, hj, hm, hq⟩)
        · rw [if_neg (show ¬ winC V k b lm = true by rw [winC, v, h4, h1, decide_eq_false v1.2.1, decide_eq_false b1.2.1, decide_eq_false (fun z => hlt (by have := (nI_ltI (a := j + m) (b := a + m) (by omega) (by omega)).mp z; omega))]; decide), if_neg (show ¬ (0 ≤ W k ∧ (b < 0 ∨ W k < lc)) from fun z => z.2.elim (by rw [h1]; exact b1.1) (fun y => hlt (by rw [w, h3] at y; exact (nI_ltI (by omega) (by omega)).mp y)))]
          exact wins_eq W V q hV hW r (k + 1) b lc lm (by omega) (Or.inr ⟨a, j2, m, h1, h2, h3, h4, h5, h6, h7⟩)
theorem q_wins {hc : Nat} (h5 : hc ≤ 5) (L : xSay) (R : Nat → Nat → Int32) (n sp fw what : Int32) : aWinsM hc L R n sp fw what = aWins hc L R n sp fw what := by
  unfold aWinsM aWins
  by_cases h2 : xrace n sp fw what = true
  · rw [if_pos h2, if_pos h2, rcQ_x (xsp_1 (xrace_sp h2).1)]
    have hw := (xrace_sp h2).2
    have key := wins_eq (fun h => rRaceW L n sp fw (R h)) (fun h => mRc L n sp fw 1 (R h)) (rcQ sp fw) (fun h => by
      show mRc L n sp fw 1 (R h) = _
      rw [(mRc_eq h2 1 (R h)).1]
      by_cases z : rRaceW L n sp fw (R h) < 0
      · rw [if_pos (Or.inl z), if_pos z]
      · rw [if_neg (fun y => y.elim z (by decide)), if_neg z]) (fun h => (mRc_eq h2 1 (R h)).2) hc 0 (-1) (-1) (-1) (by omega) (Or.inl ⟨rfl, rfl, rfl⟩)
    unfold rUndo rWins
    rcases key with ⟨k1, k2, k3⟩ | ⟨j, hj, k1, k2, k3⟩
    · rw [k1, k2, k3, if_pos (Or.inl (by decide))]
      split <;> rfl
    · have h0 := nI_pos (n := j) (by omega)
      rw [k1, k2, k3]
      by_cases hz : what = 0
      · rw [if_pos hz, if_pos (Or.inr hz)]
      · rw [if_neg hz, if_neg (fun z => z.elim h0 hz)]
  · rw [if_neg h2, if_neg h2]
