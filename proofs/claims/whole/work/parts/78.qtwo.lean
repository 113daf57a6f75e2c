def pBest (D : Nat → Prop) (V : Nat → Int32) (lo hi : Nat) (b l : Int32) : Prop := (b = -1 ∧ l = -1 ∧ ∀ p, lo ≤ p → p ≤ hi → ¬ D p) ∨ (∃ p, b = nI p ∧ p < 1000 ∧ lo ≤ p ∧ p ≤ hi ∧ D p ∧ l = V p ∧ ∀ p', lo ≤ p' → p' ≤ hi → D p' → V p ≤ V p' ∧ (V p' ≤ V p → p' ≤ p))
theorem pBest_u {D : Nat → Prop} {V : Nat → Int32} {lo hi : Nat} {b l b' l' : Int32} (h : pBest D V lo hi b l) (h' : pBest D V lo hi b' l') : b = b' ∧ l = l' := by
  rcases h with ⟨h1, h2, h3⟩ | ⟨p, h1, hp, h2, h3, h4, h5, h6⟩
  · rcases h' with ⟨g1, g2, g3⟩ | ⟨p, g1, gp, g2, g3, g4, g5, g6⟩
    · exact ⟨h1.trans g1.symm, h2.trans g2.symm⟩
    · exact absurd g4 (h3 p g2 g3)
  · rcases h' with ⟨g1, g2, g3⟩ | ⟨p', g1, gp, g2, g3, g4, g5, g6⟩
    · exact absurd h4 (g3 p h2 h3)
    · have a := h6 p' g2 g3 g4
      have b := g6 p h2 h3 h4
      have e : p = p' := Nat.le_antisymm (b.2 a.1) (a.2 b.1)
      subst e
      exact ⟨h1.trans g1.symm, h5.trans g5.symm⟩
theorem nI_nn {x : Nat} (hx : x < 1000) : ¬ nI x < 0 ∧ ¬ nI x = -1 ∧ 0 ≤ nI x := by
  have h0 := nI_pos (n := x) (by omega)
  exact ⟨h0, fun z => h0 (by rw [z]; decide), Int32.not_lt.mp h0⟩
theorem pace_up (T : Nat → Nat → Int32) (V : Nat → Int32) (hV : ∀ k, V k = xabs (T k 6)) : ∀ (r k : Nat) (b l : Int32), 1 ≤ k → k + r = 10 → pBest (fun k => T k 7 = 0) V 1 (k - 1) b l → pBest (fun k => T k 7 = 0) V 1 9 (sBest (paceC T) nI V r k b l).1 (sBest (paceC T) nI V r k b l).2
  | 0, k, b, l, h1, hk, h => by
    have e : k - 1 = 9 := by omega
    rw [e] at h
    exact h
  | r + 1, k, b, l, h1, hk, h => by
    rw [sBest]
    by_cases hc : paceC T k b l = true
    · rw [if_pos hc]
      rw [paceC, Bool.and_eq_true, Bool.or_eq_true, decide_eq_true_eq, decide_eq_true_eq, decide_eq_true_eq, ← hV] at hc
      refine pace_up T V hV r (k + 1) _ _ (by omega) (by omega) (Or.inr ⟨k, rfl, by omega, h1, by omega, hc.1, rfl, fun p' a1 a2 a3 => ?_⟩)
      rcases Nat.lt_or_ge p' k with z | z
      · refine ⟨?_, fun _ => by omega⟩
        rcases h with ⟨q1, q2, q3⟩ | ⟨p, q1, qp, q2, q3, q4, q5, q6⟩
        · exact absurd a3 (q3 p' a1 (by omega))
        · have := (q6 p' a1 (by omega) a3).1
          rcases hc.2 with w | w
          · exact absurd (q1.symm.trans w) (nI_nn (by omega)).2.1
          · rw [q5] at w; exact Int32.le_trans w this
      · have : p' = k := by omega
        subst this
        exact ⟨Int32.le_refl _, fun _ => Nat.le_refl _⟩
    · rw [if_neg hc]
      rw [paceC, Bool.and_eq_true, Bool.or_eq_true, decide_eq_true_eq, decide_eq_true_eq, decide_eq_true_eq, ← hV] at hc
      refine pace_up T V hV r (k + 1) _ _ (by omega) (by omega) ?_
      rw [Nat.add_sub_cancel]
      rcases h with ⟨q1, q2, q3⟩ | ⟨p, q1, qp, q2, q3, q4, q5, q6⟩
      · refine Or.inl ⟨q1, q2, fun p a1 a2 a3 => ?_⟩
        rcases Nat.lt_or_ge p k with z | z
        · exact q3 p a1 (by omega) a3
        · have : p = k := by omega
          subst this
          exact hc ⟨a3, Or.inl q1⟩
      · refine Or.inr ⟨p, q1, qp, q2, by omega, q4, q5, fun p' a1 a2 a3 => ?_⟩
        rcases Nat.lt_or_ge p' k with z | z
        · exact q6 p' a1 (by omega) a3
        · have : p' = k := by omega
          subst this
          have hn : ¬ V p' ≤ V p := fun z => hc ⟨a3, Or.inr (by rw [q5]; exact z)⟩
          exact ⟨Int32.le_of_lt (Int32.not_le.mp hn), fun z => absurd z hn⟩
theorem pace_dn (L : xSay) (far : Int32) (b0 : Nat → Int32) (T : Nat → Nat → Int32) (V : Nat → Int32) (hV : ∀ k, V k = xabs (T k 6)) (hT : ∀ k, 1 ≤ k → k ≤ 9 → hGo L (nI k) 1 (xru far (nI k)).toNatClampNeg b0 = T k) : ∀ (k : Nat) (b l : Int32), k ≤ 9 → pBest (fun k => T k 7 = 0) V (k + 1) 9 b l → pBest (fun k => T k 7 = 0) V 1 9 (sPace L far b0 k b l).1 (sPace L far b0 k b l).2
  | 0, b, l, _, h => h
  | k + 1, b, l, hk, h => by
    rw [sPace, hT (k + 1) (by omega) hk, ← hV]
    by_cases hc : T (k + 1) 7 = 0 ∧ (b < 0 ∨ V (k + 1) < l)
    · rw [if_pos hc]
      refine pace_dn L far b0 T V hV hT k _ _ (by omega) (Or.inr ⟨k + 1, rfl, by omega, Nat.le_refl _, hk, hc.1, rfl, fun p' a1 a2 a3 => ?_⟩)
      rcases Nat.lt_or_ge (k + 1) p' with z | z
      · rcases h with ⟨q1, q2, q3⟩ | ⟨p, q1, qp, q2, q3, q4, q5, q6⟩
        · exact absurd a3 (q3 p' (by omega) a2)
        · have := (q6 p' (by omega) a2 a3).1
          rcases hc.2 with w | w
          · rw [q1] at w; exact absurd w (nI_nn (by omega)).1
          · rw [q5] at w
            have w2 := Int32.lt_of_lt_of_le w this
            exact ⟨Int32.le_of_lt w2, fun y => absurd y (Int32.not_le.mpr w2)⟩
      · have : p' = k + 1 := by omega
        subst this
        exact ⟨Int32.le_refl _, fun _ => Nat.le_refl _⟩
    · rw [if_neg hc]
      refine pace_dn L far b0 T V hV hT k _ _ (by omega) ?_
      rcases h with ⟨q1, q2, q3⟩ | ⟨p, q1, qp, q2, q3, q4, q5, q6⟩
      · refine Or.inl ⟨q1, q2, fun p a1 a2 a3 => ?_⟩
        rcases Nat.lt_or_ge (k + 1) p with z | z
        · exact q3 p (by omega) a2 a3
        · have : p = k + 1 := by omega
          subst this
          exact hc ⟨a3, Or.inl (by rw [q1]; decide)⟩
      · refine Or.inr ⟨p, q1, qp, by omega, q3, q4, q5, fun p' a1 a2 a3 => ?_⟩
        rcases Nat.lt_or_ge (k + 1) p' with z | z
        · exact q6 p' (by omega) a2 a3
        · have : p' = k + 1 := by omega
          subst this
          have hn : ¬ V (k + 1) < V p := fun z => hc ⟨a3, Or.inr (by rw [q5]; exact z)⟩
          exact ⟨Int32.not_lt.mp hn, fun _ => by omega⟩
theorem tTry_0 (L : xSay) (n sp : Int32) (F : Nat → Int32) : tTry L n sp 0 F = hSpin L n sp (hStd F) := rfl
theorem q_pace (hc : Nat) (L : xSay) (R : Nat → Nat → Int32) (h n sp far what : Int32) : aPaceM hc L R h n sp far what = aPace hc L R h n sp far what := by
  unfold aPaceM aPace
  by_cases h1 : xin h 0 (nI hc - 1) = true
  · rw [if_pos h1, if_pos h1]
    by_cases h2 : xin n (-40) 40 = true ∧ xin sp 1 9 = true ∧ xin far 1 60 = true ∧ xin what 0 1 = true
    · rw [if_pos h2, if_pos h2]
      have hT : ∀ k, 1 ≤ k → k ≤ 9 → hGo L (nI k) 1 (xru far (nI k)).toNatClampNeg (hSpin L n sp (hStd (R h.toNatClampNeg))) = pcT L n sp far (R h.toNatClampNeg) k := by
        intro k k1 k2
        rw [pcT, tTry_0, xru, if_neg (show ¬ nI k < 1 from fun z => absurd ((nI_ltI (a := k) (b := 1) (by omega) (by decide)).mp z) (by omega))]
      have a := pace_up (pcT L n sp far (R h.toNatClampNeg)) (fun k => xabs (pcT L n sp far (R h.toNatClampNeg) k 6)) (fun _ => rfl) 9 1 (-1) (-1) (by decide) (by decide) (Or.inl ⟨rfl, rfl, fun p a b => by omega⟩)
      have b := pace_dn L far _ (pcT L n sp far (R h.toNatClampNeg)) (fun k => xabs (pcT L n sp far (R h.toNatClampNeg) k 6)) (fun _ => rfl) hT 9 (-1) (-1) (by decide) (Or.inl ⟨rfl, rfl, fun p a b => by omega⟩)
      have e := pBest_u a b
      rw [show (10 - 1 : Nat) = 9 from rfl]
      unfold rUndo
      rw [e.1, e.2]
    · rw [if_neg h2, if_neg h2]
  · rw [if_neg h1, if_neg h1]
theorem hSpinN_o (S : xSay) (sp sd : Int32) (F : Nat → Int32) {j : Nat} (hj : j ≠ 2) : ∀ k, hSpinN S sp sd k F j = F j
  | 0 => rfl
  | k + 1 => by
    rw [hSpinN, hSpin1, hFade, xup_n _ _ hj, xup_n _ _ hj]
    exact hSpinN_o S sp sd F hj k
theorem spin_row (S : xSay) (sp sd : Int32) (F : Nat → Int32) (k : Nat) : hSpinN S sp sd k F = xup F 2 (hSpinN S sp sd k F 2) := by
  funext j
  by_cases h : j = 2
  · subst h; rw [xup_s]
  · rw [xup_n _ _ h, hSpinN_o S sp sd F h k]
theorem ts_row (L : xSay) (sp : Int32) (f : Nat → Int32) {i : Nat} (hi : i ≤ 80) : xup (hStd f) 2 (tsV L sp (hStd f) i) = hSpin L (mNum (nI i)) sp (hStd f) := by
  rw [mNum_n hi, tsV]
  by_cases h : i % 2 = 1
  · rw [if_pos h, if_pos h, hSpin_p L sp _ (by omega), ← spin_row]
  · rw [if_neg h, if_neg h, hSpin_m L sp _ (by omega), ← spin_row]
theorem roses_eq (L : xSay) (sp sec a : Int32) (f : Nat → Int32) : ∀ (r k : Nat) (b l : Int32), k + r ≤ 81 → sBest (roC (roT L sp sec f) a) (fun k => mNum (nI k)) (fun k => xabs (roT L sp sec f k 6 - a)) r k b l = sRoses L (sp - sp / 10 * 10) sec a f (tsV L (sp / 10) (hStd f)) r k b l
  | 0, _, _, _, _ => rfl
  | r + 1, k, b, l, h => by
    have e : hGo L (sp - sp / 10 * 10) 1 sec.toNatClampNeg (xup (hStd f) 2 (tsV L (sp / 10) (hStd f) k)) = roT L sp sec f k := by rw [roT, tTry_0, ts_row L (sp / 10) f (by omega)]
    rw [sBest, sRoses, e]
    have e0 : nI k = 0 ↔ k = 0 := nI_eq (a := k) (b := 0) (by omega) (by decide)
    by_cases hc : nI k = 0 ∨ xabs (roT L sp sec f k 6 - a) < l
    · rw [if_pos hc, if_pos (by rw [roC, Bool.or_eq_true, decide_eq_true_eq, decide_eq_true_eq, ← e0]; exact hc)]
      exact roses_eq L sp sec a f r (k + 1) _ _ (by omega)
    · rw [if_neg hc, if_neg (by rw [roC, Bool.or_eq_true, decide_eq_true_eq, decide_eq_true_eq, ← e0]; exact hc)]
      exact roses_eq L sp sec a f r (k + 1) _ _ (by omega)
theorem q_roses (hc : Nat) (L : xSay) (R : Nat → Nat → Int32) (h sp sec a what : Int32) : aRosesM hc L R h sp sec a what = aRoses hc L R h sp sec a what := by
  unfold aRosesM aRoses
  rw [roses_eq L sp sec a _ (81 - 0) 0 0 0 (by decide)]
theorem sFO_c (L : xSay) (p : Int32) (g g' : Nat → Int32) : ∀ (N i : Nat) (f : Nat → Int32), (∀ j, i ≤ j → j < i + N → g j = g' j) → sFO L p g N i f = sFO L p g' N i f
  | 0, _, _, _ => rfl
  | N + 1, i, f, h => by
    rw [sFO, sFO, h i (Nat.le_refl _) (by omega), sFO_c L p g g' N (i + 1) _ (fun j a b => h j (by omega) (by omega))]
theorem sFO_r (L : xSay) (p : Int32) (g : Nat → Int32) : ∀ (N i : Nat) (f : Nat → Int32), N + i < 1000 → (sFO L p g N i f).1 = -1 ∨ ∃ j, j < 1000 ∧ (sFO L p g N i f).1 = nI j
  | 0, _, _, _ => Or.inl rfl
  | N + 1, i, f, h => by
    rw [sFO]
    split
    · exact sFO_r L p g N (i + 1) _ (by omega)
    · exact Or.inr ⟨i, by omega, rfl⟩
theorem sFO_i (L : xSay) (p : Int32) (g : Nat → Int32) {N : Nat} (f : Nat → Int32) (h : N ≤ 40) : (sFO L p g N 0 f).1 < 0 ↔ (sFO L p g N 0 f).1 = -1 := by
  rcases sFO_r L p g N 0 f (by omega) with z | ⟨j, hj, z⟩
  · rw [z]; decide
  · rw [z]
    have := nI_nn hj
    exact ⟨fun y => absurd y this.1, fun y => absurd y this.2.1⟩
theorem bits_eq (U v : Nat → Int32) : ∀ (r k : Nat) (b : Int32), (∀ j, k ≤ j → j < k + r → (U j = -1 ↔ v j < 0)) → mBits U r k b = sBits v r k b
  | 0, _, _, _ => rfl
  | r + 1, k, b, h => by
    have h0 := h k (Nat.le_refl _) (by omega)
    rw [mBits, sBits]
    by_cases hc : v k < 0
    · rw [if_pos hc, if_pos (h0.mpr hc), bits_eq U v r (k + 1) _ (fun j a b => h j (by omega) (by omega))]
    · rw [if_neg hc, if_neg (fun z => hc (h0.mp z)), bits_eq U v r (k + 1) _ (fun j a b => h j (by omega) (by omega))]
theorem turned_eq (L : xSay) (sp : Int32) (cl cl' : Nat → Int32) (N : Nat) (hN : N ≤ 40) (hcl : ∀ k, k < N → cl' k = cl k) (f : Nat → Int32) : ∀ (r k : Nat) (m q : Int32), k + r ≤ 81 → tnS (fun k => tUnl L cl' N (mNum (nI k)) sp f) r k m q = sTurned L (sp - sp / 10 * 10) cl N f (tsV L (sp / 10) (hStd f)) r k m q
  | 0, _, _, _, _ => rfl
  | r + 1, k, m, q, h => by
    have e : tUnl L cl' N (mNum (nI k)) sp f = (sFO L (sp - sp / 10 * 10) cl N 0 (xup (hStd f) 2 (tsV L (sp / 10) (hStd f) k))).1 := by
      rw [tUnl, ts_row L (sp / 10) f (by omega), sFO_c L _ cl' cl N 0 _ (fun j _ a => hcl j (by omega))]
    rw [tnS, sTurned, e]
    have hi := sFO_i L (sp - sp / 10 * 10) cl (xup (hStd f) 2 (tsV L (sp / 10) (hStd f) k)) hN
    by_cases hc : (sFO L (sp - sp / 10 * 10) cl N 0 (xup (hStd f) 2 (tsV L (sp / 10) (hStd f) k))).1 < 0
    · rw [if_pos hc, if_pos (hi.mp hc)]
      exact turned_eq L sp cl cl' N hN hcl f r (k + 1) _ _ (by omega)
    · rw [if_neg hc, if_neg (fun z => hc (hi.mpr z))]
      exact turned_eq L sp cl cl' N hN hcl f r (k + 1) _ _ (by omega)
theorem kVar_std (s v : Int32) (f : Nat → Int32) : hStd (kVar s v f) = kVar s v (hStd f) := by
  unfold kVar
  split
  · funext j; simp only [hStd, xup_ap]; grind
  · split
    · funext j; simp only [hStd, xup_ap]; grind
    · funext j; simp only [hStd, xup_ap]; grind
