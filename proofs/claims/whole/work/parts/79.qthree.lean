theorem r_aAsks {hc : Nat} (h5 : hc ≤ 5) {R R' : Nat → Nat → Int32} (hR : ∀ i, i < hc → R i = R' i) (L : xSay) (part h se : Int32) : aAsks hc L R part h se = aAsks hc L R' part h se := by
  unfold aAsks
  by_cases h1 : xin h 0 (nI hc - 1) = true
  · obtain ⟨i, hi, rfl⟩ := cHead h5 h1
    rw [nI_cl (show i < 2 ^ 31 by omega), hR i hi]
  · simp [h1]
theorem r_aTold {hc : Nat} (h5 : hc ≤ 5) {R R' : Nat → Nat → Int32} (hR : ∀ i, i < hc → R i = R' i) (h what : Int32) : aTold hc R h what = aTold hc R' h what := by
  unfold aTold
  by_cases h1 : xin h 0 (nI hc - 1) = true
  · obtain ⟨i, hi, rfl⟩ := cHead h5 h1
    rw [nI_cl (show i < 2 ^ 31 by omega), hR i hi]
  · simp [h1]
theorem r_aSet {hc : Nat} (h5 : hc ≤ 5) {R R' : Nat → Nat → Int32} (hR : ∀ i, i < hc → R i = R' i) (h what v : Int32) : aSet hc R h what v = aSet hc R' h what v := by
  unfold aSet
  by_cases h1 : xin h 0 (nI hc - 1) = true
  · obtain ⟨i, hi, rfl⟩ := cHead h5 h1
    rw [nI_cl (show i < 2 ^ 31 by omega), hR i hi]
  · simp [h1]
theorem r_aTurn {hc : Nat} (h5 : hc ≤ 5) {R R' : Nat → Nat → Int32} (hR : ∀ i, i < hc → R i = R' i) (L : xSay) (h n sp : Int32) : aTurn hc L R h n sp = aTurn hc L R' h n sp := by
  unfold aTurn
  by_cases h1 : xin h 0 (nI hc - 1) = true
  · obtain ⟨i, hi, rfl⟩ := cHead h5 h1
    rw [nI_cl (show i < 2 ^ 31 by omega), hR i hi]
  · simp [h1]
theorem r_aRest {hc : Nat} (h5 : hc ≤ 5) {R R' : Nat → Nat → Int32} (hR : ∀ i, i < hc → R i = R' i) (L : xSay) (h sec eyes : Int32) : aRest hc L R h sec eyes = aRest hc L R' h sec eyes := by
  unfold aRest
  by_cases h1 : xin h 0 (nI hc - 1) = true
  · obtain ⟨i, hi, rfl⟩ := cHead h5 h1
    rw [nI_cl (show i < 2 ^ 31 by omega), hR i hi]
  · simp [h1]
theorem r_aWalk {hc : Nat} (h5 : hc ≤ 5) {R R' : Nat → Nat → Int32} (hR : ∀ i, i < hc → R i = R' i) (L : xSay) (h sec pe : Int32) : aWalk hc L R h sec pe = aWalk hc L R' h sec pe := by
  unfold aWalk
  by_cases h1 : xin h 0 (nI hc - 1) = true
  · obtain ⟨i, hi, rfl⟩ := cHead h5 h1
    rw [nI_cl (show i < 2 ^ 31 by omega), hR i hi]
  · simp [h1]
theorem r_aUp {hc : Nat} (h5 : hc ≤ 5) {R R' : Nat → Nat → Int32} (hR : ∀ i, i < hc → R i = R' i) (h : Int32) : aUp hc R h = aUp hc R' h := by
  unfold aUp
  by_cases h1 : xin h 0 (nI hc - 1) = true
  · obtain ⟨i, hi, rfl⟩ := cHead h5 h1
    rw [nI_cl (show i < 2 ^ 31 by omega), hR i hi]
  · simp [h1]
theorem r_aEnds {hc : Nat} (h5 : hc ≤ 5) {R R' : Nat → Nat → Int32} (hR : ∀ i, i < hc → R i = R' i) (L : xSay) (h n wsp sec what : Int32) : aEnds hc L R h n wsp sec what = aEnds hc L R' h n wsp sec what := by
  unfold aEnds
  by_cases h1 : xin h 0 (nI hc - 1) = true
  · obtain ⟨i, hi, rfl⟩ := cHead h5 h1
    rw [nI_cl (show i < 2 ^ 31 by omega), hR i hi]
  · simp [h1]
theorem r_aStands {hc : Nat} (h5 : hc ≤ 5) {R R' : Nat → Nat → Int32} (hR : ∀ i, i < hc → R i = R' i) (L : xSay) (h sp : Int32) : aStands hc L R h sp = aStands hc L R' h sp := by
  unfold aStands
  by_cases h1 : xin h 0 (nI hc - 1) = true
  · obtain ⟨i, hi, rfl⟩ := cHead h5 h1
    rw [nI_cl (show i < 2 ^ 31 by omega), hR i hi]
  · simp [h1]
theorem r_aUndo {hc : Nat} (h5 : hc ≤ 5) {R R' : Nat → Nat → Int32} (hR : ∀ i, i < hc → R i = R' i) (L : xSay) (h sp what : Int32) : aUndo hc L R h sp what = aUndo hc L R' h sp what := by
  unfold aUndo
  by_cases h1 : xin h 0 (nI hc - 1) = true
  · obtain ⟨i, hi, rfl⟩ := cHead h5 h1
    rw [nI_cl (show i < 2 ^ 31 by omega), hR i hi]
  · simp [h1]
theorem r_aFine {hc : Nat} (h5 : hc ≤ 5) {R R' : Nat → Nat → Int32} (hR : ∀ i, i < hc → R i = R' i) (L : xSay) (h much : Int32) : aFine hc L R h much = aFine hc L R' h much := by
  unfold aFine
  by_cases h1 : xin h 0 (nI hc - 1) = true
  · obtain ⟨i, hi, rfl⟩ := cHead h5 h1
    rw [nI_cl (show i < 2 ^ 31 by omega), hR i hi]
  · simp [h1]
theorem r_aRace {hc : Nat} (h5 : hc ≤ 5) {R R' : Nat → Nat → Int32} (hR : ∀ i, i < hc → R i = R' i) (L : xSay) (h n sp fw what : Int32) : aRace hc L R h n sp fw what = aRace hc L R' h n sp fw what := by
  unfold aRace
  by_cases h1 : xin h 0 (nI hc - 1) = true
  · obtain ⟨i, hi, rfl⟩ := cHead h5 h1
    rw [nI_cl (show i < 2 ^ 31 by omega), hR i hi]
  · simp [h1]
theorem r_aPace {hc : Nat} (h5 : hc ≤ 5) {R R' : Nat → Nat → Int32} (hR : ∀ i, i < hc → R i = R' i) (L : xSay) (h n sp far what : Int32) : aPace hc L R h n sp far what = aPace hc L R' h n sp far what := by
  unfold aPace
  by_cases h1 : xin h 0 (nI hc - 1) = true
  · obtain ⟨i, hi, rfl⟩ := cHead h5 h1
    rw [nI_cl (show i < 2 ^ 31 by omega), hR i hi]
  · simp [h1]
theorem r_aRoses {hc : Nat} (h5 : hc ≤ 5) {R R' : Nat → Nat → Int32} (hR : ∀ i, i < hc → R i = R' i) (L : xSay) (h sp sec a what : Int32) : aRoses hc L R h sp sec a what = aRoses hc L R' h sp sec a what := by
  unfold aRoses
  by_cases h1 : xin h 0 (nI hc - 1) = true
  · obtain ⟨i, hi, rfl⟩ := cHead h5 h1
    rw [nI_cl (show i < 2 ^ 31 by omega), hR i hi]
  · simp [h1]
theorem r_aDrawn {hc : Nat} (h5 : hc ≤ 5) {R R' : Nat → Nat → Int32} (hR : ∀ i, i < hc → R i = R' i) (L : xSay) (seed h sec op what : Int32) : aDrawn hc L R seed h sec op what = aDrawn hc L R' seed h sec op what := by
  unfold aDrawn
  by_cases h1 : xin h 0 (nI hc - 1) = true
  · obtain ⟨i, hi, rfl⟩ := cHead h5 h1
    rw [nI_cl (show i < 2 ^ 31 by omega), hR i hi]
  · simp [h1]
theorem r_aOdds {hc : Nat} (h5 : hc ≤ 5) {R R' : Nat → Nat → Int32} (hR : ∀ i, i < hc → R i = R' i) (L : xSay) (seed ss h op wide part : Int32) : aOdds hc L R seed ss h op wide part = aOdds hc L R' seed ss h op wide part := by
  unfold aOdds
  by_cases h1 : xin h 0 (nI hc - 1) = true
  · obtain ⟨i, hi, rfl⟩ := cHead h5 h1
    rw [nI_cl (show i < 2 ^ 31 by omega), hR i hi]
  · simp [h1]
theorem r_aTaken {hc : Nat} (h5 : hc ≤ 5) {R R' : Nat → Nat → Int32} (hR : ∀ i, i < hc → R i = R' i) (i k : Int32) : aTaken hc R i k = aTaken hc R' i k := by
  unfold aTaken
  have hx : ∀ j, xin j 0 (nI hc - 1) = true → R j.toNatClampNeg = R' j.toNatClampNeg := by
    intro j hj
    obtain ⟨q, hq, rfl⟩ := cHead h5 hj
    rw [nI_cl (show q < 2 ^ 31 by omega), hR q hq]
  by_cases a1 : xin (i - 5) 0 (nI hc - 1) = true
  · rw [hx _ a1]
    by_cases a2 : xin i 0 (nI hc - 1) = true
    · rw [hx _ a2]
    · simp [a2]
  · by_cases a2 : xin i 0 (nI hc - 1) = true
    · rw [hx _ a2]; simp [a1]
    · simp [a1, a2]
theorem sWins_c (W W' : Nat → Int32) : ∀ (r k : Nat) (b l : Int32), (∀ j, k ≤ j → j < k + r → W j = W' j) → sWins W r k b l = sWins W' r k b l
  | 0, _, _, _, _ => rfl
  | r + 1, k, b, l, h => by
    rw [sWins, sWins, h k (Nat.le_refl _) (by omega), sWins_c W W' r (k + 1) _ _ (fun j a b => h j (by omega) (by omega)), sWins_c W W' r (k + 1) _ _ (fun j a b => h j (by omega) (by omega))]
theorem r_aWins {hc : Nat} (h5 : hc ≤ 5) {R R' : Nat → Nat → Int32} (hR : ∀ i, i < hc → R i = R' i) (L : xSay) (n sp fw what : Int32) : aWins hc L R n sp fw what = aWins hc L R' n sp fw what := by
  unfold aWins
  rw [sWins_c _ (fun h => rRaceW L n sp fw (R' h)) hc 0 _ _ (fun j _ b => by show rRaceW L n sp fw (R j) = rRaceW L n sp fw (R' j); rw [hR j (by omega)])]
theorem rSheet_c {srt srt' : Nat → Int32} (h : ∀ q, q < 4 → srt q = srt' q) (s : Int32) : rSheet srt s = rSheet srt' s := by
  unfold rSheet
  by_cases hs : xin s 0 3 = true
  · obtain ⟨q, hq, rfl⟩ := cTop (n := 3) (by decide) hs
    rw [nI_cl (show q < 2 ^ 31 by omega), h q (by omega)]
  · rw [if_neg hs, if_neg hs]
theorem rTold_c {hc : Nat} {srt srt' : Nat → Int32} (h : ∀ q, q < 4 → srt q = srt' q) (s hh : Int32) : rTold hc srt s hh = rTold hc srt' s hh := by
  unfold rTold
  rw [rSheet_c h]
theorem tUnl_c (L : xSay) {cl cl' : Nat → Int32} {N : Nat} (h : ∀ k, k < N → cl k = cl' k) (n sp : Int32) (f : Nat → Int32) : tUnl L cl N n sp f = tUnl L cl' N n sp f := by
  unfold tUnl
  rw [sFO_c L _ cl cl' N 0 _ (fun j _ a => h j (by omega))]
theorem tUnl_i (L : xSay) (cl : Nat → Int32) {N : Nat} (h : N ≤ 40) (n sp : Int32) (f : Nat → Int32) : tUnl L cl N n sp f < 0 ↔ tUnl L cl N n sp f = -1 := sFO_i L _ cl _ h
theorem told_q {hc : Nat} (h5 : hc ≤ 5) {srt : Nat → Int32} {s h : Int32} (ht : rTold hc srt s h = 0) : ∃ q i, q < 4 ∧ i < hc ∧ s.toNatClampNeg = q ∧ h.toNatClampNeg = i := by
  obtain ⟨q, i, hq, hi, e1, e2, -⟩ := rTold_ok h5 ht
  exact ⟨q, i, hq, hi, by rw [e1, nI_cl (by omega)], by rw [e2, nI_cl (by omega)]⟩
theorem q_judge {hc : Nat} (h5 : hc ≤ 5) {R R' : Nat → Nat → Int32} (hR : ∀ i, i < hc → R i = R' i) (L : xSay) {srt srt' : Nat → Int32} (hs : ∀ q, q < 4 → srt q = srt' q) {sz : Nat → Nat} (hz : ∀ q, q < 4 → sz q ≤ 40) {cl cl' : Nat → Nat → Int32} (hcl : ∀ q, q < 4 → ∀ k, k < sz q → cl q k = cl' q k) (s h n sp : Int32) : aJudge hc L R srt sz cl s h n sp = aJudge hc L R' srt' sz cl' s h n sp := by
  unfold aJudge
  rw [rTold_c hs]
  by_cases ht : rTold hc srt' s h = 0
  · obtain ⟨q, i, hq, hi, e1, e2⟩ := told_q h5 ht
    rw [e1, e2, hR i hi, sFO_c L _ (cl q) (cl' q) (sz q) 0 _ (fun j _ a => hcl q hq j (by omega))]
  · rw [if_neg ht, if_neg ht]
theorem q_turned {hc : Nat} (h5 : hc ≤ 5) {R R' : Nat → Nat → Int32} (hR : ∀ i, i < hc → R i = R' i) (L : xSay) {srt srt' : Nat → Int32} (hs : ∀ q, q < 4 → srt q = srt' q) {sz : Nat → Nat} (hz : ∀ q, q < 4 → sz q ≤ 40) {cl cl' : Nat → Nat → Int32} (hcl : ∀ q, q < 4 → ∀ k, k < sz q → cl q k = cl' q k) (s h sp what : Int32) : aTurnedM hc L R' srt' sz cl' s h sp what = aTurned hc L R srt sz cl s h sp what := by
  unfold aTurnedM aTurned
  rw [mTold_eq, rTold_c hs]
  by_cases ht : rTold hc srt' s h = 0
  · obtain ⟨q, i, hq, hi, e1, e2⟩ := told_q h5 ht
    rw [if_pos ht, if_pos ht]
    by_cases hsp : xsp sp = true
    · rw [show (if xin 0 (-40) 40 = true ∧ xsp sp = true then (0 : Int32) else -7) = 0 from if_pos ⟨by decide, hsp⟩, if_pos rfl]
      by_cases hw : xin what 0 1 = true
      · rw [if_pos hw, if_pos ⟨hsp, hw⟩, e1, e2, turned_eq L sp (cl q) (cl' q) (sz q) (hz q hq) (fun k hk => (hcl q hq k hk).symm) _ (81 - 0) 0 0 (-100) (by decide), hR i hi]
      · rw [if_neg hw, if_neg (fun z => hw z.2)]
    · rw [show (if xin 0 (-40) 40 = true ∧ xsp sp = true then (0 : Int32) else -7) = -7 from if_neg (fun z => hsp z.2), if_neg (by decide), if_neg (fun z => hsp z.1)]
  · rw [if_neg ht, if_neg ht, if_neg ht]
theorem q_kinds {hc : Nat} (h5 : hc ≤ 5) {R R' : Nat → Nat → Int32} (hR : ∀ i, i < hc → R i = R' i) (L : xSay) {srt srt' : Nat → Int32} (hs : ∀ q, q < 4 → srt q = srt' q) {sz : Nat → Nat} (hz : ∀ q, q < 4 → sz q ≤ 40) {cl cl' : Nat → Nat → Int32} (hcl : ∀ q, q < 4 → ∀ k, k < sz q → cl q k = cl' q k) (s h n sp sort : Int32) : aKindsM hc L R' srt' sz cl' s h n sp sort = aKinds hc L R srt sz cl s h n sp sort := by
  unfold aKindsM aKinds
  rw [mTold_eq, rTold_c hs]
  by_cases ht : rTold hc srt' s h = 0
  · obtain ⟨q, i, hq, hi, e1, e2⟩ := told_q h5 ht
    rw [if_pos ht, if_pos ht]
    by_cases hsp : xin n (-40) 40 = true ∧ xsp sp = true
    · rw [if_pos hsp, if_pos rfl]
      by_cases hw : xin sort 0 2 = true
      · rw [if_pos hw, if_pos (show xin n (-40) 40 = true ∧ xsp sp = true ∧ xin sort 0 2 = true from ⟨hsp.1, hsp.2, hw⟩), e1, e2]
        refine bits_eq _ _ _ _ _ (fun j _ _ => ?_)
        show tUnl L (cl' q) (sz q) n sp (kVar sort (nI j) (R' i)) = -1 ↔ tUnk L (cl q) (sz q) n sp (kVar sort (nI j) (hStd (R i))) < 0
        have e : tUnk L (cl q) (sz q) n sp (kVar sort (nI j) (hStd (R i))) = tUnl L (cl' q) (sz q) n sp (kVar sort (nI j) (R' i)) := by
          rw [tUnk, tUnl, kVar_std, hR i hi, sFO_c L _ (cl q) (cl' q) (sz q) 0 _ (fun j _ a => hcl q hq j (by omega))]
        rw [e]
        exact (tUnl_i L _ (hz q hq) n sp _).symm
      · rw [if_neg hw, if_neg (fun z => hw z.2.2)]
    · rw [if_neg hsp, if_neg (by decide), if_neg (fun z => hsp ⟨z.1, z.2.1⟩)]
  · rw [if_neg ht, if_neg ht, if_neg ht]
theorem q_laws {hc : Nat} (h5 : hc ≤ 5) {R R' : Nat → Nat → Int32} (hR : ∀ i, i < hc → R i = R' i) (tc : Nat) (SS : Nat → xSay) {srt srt' : Nat → Int32} (hs : ∀ q, q < 4 → srt q = srt' q) {sz : Nat → Nat} (hz : ∀ q, q < 4 → sz q ≤ 40) {cl cl' : Nat → Nat → Int32} (hcl : ∀ q, q < 4 → ∀ k, k < sz q → cl q k = cl' q k) (s h n sp : Int32) : aLawsM hc tc SS R' srt' sz cl' s h n sp = aLaws hc tc SS R srt sz cl s h n sp := by
  unfold aLawsM aLaws
  rw [mTold_eq, rTold_c hs]
  by_cases ht : rTold hc srt' s h = 0
  · obtain ⟨q, i, hq, hi, e1, e2⟩ := told_q h5 ht
    rw [if_pos ht, if_pos ht]
    by_cases hsp : xin n (-40) 40 = true ∧ xsp sp = true
    · rw [if_pos hsp, if_pos rfl, if_pos hsp, e1, e2]
      refine bits_eq _ _ _ _ _ (fun j _ _ => ?_)
      show tUnl (SS j) (cl' q) (sz q) n sp (R' i) = -1 ↔ tUnl (SS j) (cl q) (sz q) n sp (R i) < 0
      rw [hR i hi, tUnl_c (SS j) (hcl q hq) n sp]
      exact (tUnl_i _ _ (hz q hq) n sp _).symm
    · rw [if_neg hsp, if_neg (by decide), if_neg hsp]
  · rw [if_neg ht, if_neg ht, if_neg ht]
theorem q_whose {hc : Nat} (h5 : hc ≤ 5) {R R' : Nat → Nat → Int32} (hR : ∀ i, i < hc → R i = R' i) (L : xSay) {srt srt' : Nat → Int32} (hs : ∀ q, q < 4 → srt q = srt' q) {sz : Nat → Nat} (hz : ∀ q, q < 4 → sz q ≤ 40) {cl cl' : Nat → Nat → Int32} (hcl : ∀ q, q < 4 → ∀ k, k < sz q → cl q k = cl' q k) (s n sp : Int32) : aWhoseM hc L R' srt' sz cl' s n sp = aWhose hc L R srt sz cl s n sp := by
  unfold aWhoseM aWhose
  rw [rSheet_c hs]
  by_cases ht : rSheet srt' s = 0
  · obtain ⟨q, hq, e1, -⟩ := rSheet_ok ht
    rw [if_pos ht, if_pos ht, e1, nI_cl (show q < 2 ^ 31 by omega)]
    by_cases hsp : xin n (-40) 40 = true ∧ xsp sp = true
    · rw [if_pos hsp, if_pos hsp]
      refine bits_eq _ _ _ _ _ (fun j _ b => ?_)
      show tUnl L (cl' q) (sz q) n sp (R' j) = -1 ↔ tUnl L (cl q) (sz q) n sp (R j) < 0
      rw [hR j (by omega), tUnl_c L (hcl q hq) n sp]
      exact (tUnl_i _ _ (hz q hq) n sp _).symm
    · rw [if_neg hsp, if_neg hsp]
  · rw [if_neg ht, if_neg ht]
theorem sGcd_n : ∀ (k a b : Nat), a < 1000 → b < k → b < 1000 → sGcd k (nI a) (nI b) = nI (Nat.gcd a b)
  | 0, _, _, _, h, _ => absurd h (Nat.not_lt_zero _)
  | k + 1, a, b, ha, hb, hb2 => by
    rw [sGcd]
    by_cases hz : b = 0
    · subst hz
      rw [if_pos (show nI 0 = 0 from rfl), Nat.gcd_zero_right]
    · have hbp : 0 < b := Nat.pos_of_ne_zero hz
      rw [if_neg (nI_nz hbp (by omega)), q_rem (k := a) (by omega) b hbp (by omega), sGcd_n k b (a % b) hb2 (by have := Nat.mod_lt a hbp; omega) (by have := Nat.mod_lt a hbp; omega), gcd_st]
theorem xGcd_n {a b : Nat} (ha : a < 1000) (hb : b < 100) (hb0 : 0 < b) : xGcd (nI a) (nI b) = nI (Nat.gcd a b) := by
  have hg : 0 < Nat.gcd a b := Nat.gcd_pos_of_pos_right _ hb0
  have hg2 : Nat.gcd a b ≤ b := Nat.le_of_dvd hb0 (Nat.gcd_dvd_right a b)
  rw [xGcd, sGcd_n 100 a b ha hb (by omega)]
  by_cases h : (1 : Int32) < nI (Nat.gcd a b)
  · rw [if_pos h]
  · rw [if_neg h]
    have : ¬ 1 < Nat.gcd a b := fun z => h (nI_lt z (by omega))
    have e : Nat.gcd a b = 1 := by omega
    rw [e]
    rfl
theorem sOdds_n (L : xSay) (op seed sec wide : Int32) (F : Nat → Int32) : ∀ (r k m : Nat), m + r < 1000 → sOdds L op seed sec wide F r k (nI m) = nI (ocS (fun k => sDraw L op sec.toNatClampNeg (seed + nI k + 1).toInt64 (hStd F) 6) wide r k m) ∧ ocS (fun k => sDraw L op sec.toNatClampNeg (seed + nI k + 1).toInt64 (hStd F) 6) wide r k m ≤ m + r
  | 0, _, m, _ => ⟨rfl, Nat.le_refl _⟩
  | r + 1, k, m, h => by
    rw [sOdds, ocS]
    by_cases hc : xabs (sDraw L op sec.toNatClampNeg (seed + nI k + 1).toInt64 (hStd F) 6) ≤ wide
    · rw [if_pos hc, if_pos hc, nI_1]
      have := sOdds_n L op seed sec wide F r (k + 1) (m + 1) (by omega)
      exact ⟨this.1, by omega⟩
    · rw [if_neg hc, if_neg hc]
      have := sOdds_n L op seed sec wide F r (k + 1) m (by omega)
      exact ⟨this.1, by omega⟩
theorem odds_eq {part : Int32} (hp : part = 0 ∨ part = 1) {a N : Nat} (ha : a < 1000) (hN : N < 100) (h0 : 0 < N) : loR part a N = rOdds part (nI N) (nI a) := by
  have hg : 0 < Nat.gcd a N := Nat.gcd_pos_of_pos_right _ h0
  have hg2 : Nat.gcd a N ≤ N := Nat.le_of_dvd h0 (Nat.gcd_dvd_right a N)
  rw [loR, rOdds, xGcd_n ha hN h0]
  by_cases hz : a = 0
  · subst hz
    rw [if_pos rfl, Nat.gcd_zero_left]
    rcases hp with rfl | rfl
    · rw [if_pos rfl, q_div (by decide) N h0 (by omega), Nat.zero_div]
      rfl
    · rw [if_neg (by decide), q_div (by omega) N h0 (by omega), Nat.div_self h0]
      rfl
  · rw [if_neg hz]
    rcases hp with rfl | rfl
    · rw [if_pos rfl, if_pos rfl, q_div (by omega) _ hg (by omega), nI_l (Nat.lt_of_le_of_lt (Nat.div_le_self _ _) (by omega))]
    · rw [if_neg (by decide), if_neg (by decide), q_div (by omega) _ hg (by omega), nI_l (Nat.lt_of_le_of_lt (Nat.div_le_self _ _) (by omega))]
theorem q_odds (hc : Nat) (L : xSay) (R : Nat → Nat → Int32) (seed ss h op wide part : Int32) : aOddsM hc L R seed ss h op wide part = aOdds hc L R seed ss h op wide part := by
  unfold aOddsM aOdds
  by_cases h1 : xin h 0 (nI hc - 1) = true ∧ xin seed 0 99999 = true ∧ xss ss = true
  · rw [if_pos h1]
    have hss := xss_iff.mp h1.2.2
    by_cases h2 : xop op = true ∧ xin wide 0 99999 = true ∧ xin part 0 1 = true
    · rw [if_pos h2, if_pos ⟨h1.2.1, hss.1, hss.2, h1.1, h2.1, h2.2.1, h2.2.2⟩]
      obtain ⟨N, hN, hN0, e⟩ := xss_T hss.2
      have hp : part = 0 ∨ part = 1 := by
        obtain ⟨i, hi, rfl⟩ := cTop (n := 1) (by decide) h2.2.2
        have : i = 0 ∨ i = 1 := by omega
        rcases this with rfl | rfl
        · exact Or.inl rfl
        · exact Or.inr rfl
      rw [e, nI_cl (by omega)]
      have hs := sOdds_n L op seed (ss / 100) wide (R h.toNatClampNeg) N 0 0 (by omega)
      rw [show (0 : Int32) = nI 0 from rfl, hs.1]
      exact odds_eq hp (by omega) (by omega) hN0
    · rw [if_neg h2, if_neg (fun z => h2 ⟨z.2.2.2.2.1, z.2.2.2.2.2.1, z.2.2.2.2.2.2⟩)]
  · rw [if_neg h1, if_neg (fun z => h1 ⟨z.2.2.2.1, z.1, xss_iff.mpr ⟨z.2.1, z.2.2.1⟩⟩)]
