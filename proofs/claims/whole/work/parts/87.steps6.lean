def fdW (a b c d e : Int32) : Nat → Nat → Nat → (Nat → Int32) → Nat → Int32
  | 0, _, _, g => g
  | r + 1, k, p, g => fdW a b c d e r (k + 1) (p + 1) (xup g p (fdB (nI k) a b c d e))
theorem fdW_nn {a b c d e : Int32} (hb : ∀ k, ¬ fdB (nI k) a b c d e < 0) : ∀ (r k p : Nat) (g : Nat → Int32), (∀ j, j < p → ¬ g j < 0) → ∀ j, j < p + r → ¬ fdW a b c d e r k p g j < 0
  | 0, _, _, _, h, j, hj => h j hj
  | r + 1, k, p, g, h, j, hj => fdW_nn hb r (k + 1) (p + 1) _ (fun x hx => by
      by_cases e : x = p
      · subst e; rw [xup_s]; exact hb k
      · rw [xup_n _ _ e]; exact h x (by omega)) j (by omega)
theorem fdW_c {a b c d e : Int32} : ∀ (r k p : Nat) (g g' : Nat → Int32), (∀ j, j < p → g j = g' j) → ∀ j, j < p + r → fdW a b c d e r k p g j = fdW a b c d e r k p g' j
  | 0, _, _, _, _, h, j, hj => h j hj
  | r + 1, k, p, g, g', h, j, hj => fdW_c r (k + 1) (p + 1) _ _ (fun x hx => by
      by_cases e : x = p
      · subst e; rw [xup_s, xup_s]
      · rw [xup_n _ _ e, xup_n _ _ e]; exact h x (by omega)) j (by omega)
theorem iFd_w (a b c d e : Int32) : ∀ (r k : Nat) (I : xI) (p : Nat), I 11 2 = nI p → p + r ≤ 160 → (∀ x, x ≠ 11 → x ≠ 12 → iFd a b c d e r k I x = I x) ∧ iFd a b c d e r k I 11 2 = nI (p + r) ∧ iFd a b c d e r k I 12 = fdW a b c d e r k p (I 12)
  | 0, k, I, p, h, hp => ⟨fun _ _ _ => rfl, h, rfl⟩
  | r + 1, k, I, p, h, hp => by
    have ht : iTake (fdB (nI k) a b c d e) I = xw (xw I 12 p (fdB (nI k) a b c d e)) 11 2 (nI (p + 1)) := by
      rw [iTake, if_pos (by rw [h]; exact ⟨(nI_nn (by omega)).2.2, (nI_ltI (b := 160) (by omega) (by decide)).mpr (by omega)⟩), h, nI_cl (by omega), nI_1]
    have ih := iFd_w a b c d e r (k + 1) (iTake (fdB (nI k) a b c d e) I) (p + 1) (by rw [ht, xw_s]) (by omega)
    rw [iFd]
    refine ⟨fun x h1 h2 => ?_, ?_, ?_⟩
    · rw [ih.1 x h1 h2, ht, xw_row _ _ _ h1, xw_row _ _ _ h2]
    · rw [ih.2.1]; congr 1; omega
    · rw [ih.2.2, ht, xw_row _ _ _ (by decide), xw_is, xup_s, fdW]
theorem mFd_w (a b c d e : Int32) : ∀ (r k : Nat) (I : xI) (p : Nat), I 59 5 = nI p → p + r ≤ 160 → (∀ x, x ≠ 59 → x ≠ 63 → mFd a b c d e r k I x = I x) ∧ mFd a b c d e r k I 59 5 = nI (p + r) ∧ (∀ j, j ≠ 5 → mFd a b c d e r k I 59 j = I 59 j) ∧ mFd a b c d e r k I 63 = fdW a b c d e r k p (I 63)
  | 0, k, I, p, h, hp => ⟨fun _ _ _ => rfl, h, fun _ _ => rfl, rfl⟩
  | r + 1, k, I, p, h, hp => by
    have ht : mTk (fdB (nI k) a b c d e) I = xw (xw I 63 p (fdB (nI k) a b c d e)) 59 5 (nI (p + 1)) := by rw [mTk_e (by omega) h, nI_1]
    have ih := mFd_w a b c d e r (k + 1) (mTk (fdB (nI k) a b c d e) I) (p + 1) (by rw [ht, xw_s]) (by omega)
    rw [mFd]
    refine ⟨fun x h1 h2 => ?_, ?_, fun j hj => ?_, ?_⟩
    · rw [ih.1 x h1 h2, ht, xw_row _ _ _ h1, xw_row _ _ _ h2]
    · rw [ih.2.1]; congr 1; omega
    · rw [ih.2.2.1 j hj, ht, xw_k _ _ _ hj, xw_row _ _ _ (by decide)]
    · rw [ih.2.2.2, ht, xw_row _ _ _ (by decide), xw_is, xup_s, fdW]
theorem RL_tp {I J : xI} {hc tc ln : Nat} {S : Nat → xSay} {sz : Nat → Nat} {n n' : Nat} (h : RL I hc tc ln S sz n) (ha : ∀ a, a ≠ 11 → a ≠ 12 → a ≠ 59 → a ≠ 63 → J a = I a) (hk : ∀ k, k < 13 → k ≠ 5 → J 59 k = I 59 k) (hT' : tpRel J n') : RL J hc tc ln S sz n' := by
  obtain ⟨hK, hM, hR, hS, hT, hI, hO, hO2, hW⟩ := h
  have h5 := hM.1.2
  have hA : ∀ a, (a < 11 ∨ 13 ≤ a) → (a < 59 ∨ 60 ≤ a) → a ≠ 63 → J a = I a := fun a h1 h2 h3 => ha a (by omega) (by omega) (by omega) h3
  refine ⟨cOK_of hK (by rw [hA 0 (by omega) (by omega) (by decide)]; exact hK.1.1) hK.1.2 (by rw [hA 0 (by omega) (by omega) (by decide)]) (by rw [hA 0 (by omega) (by omega) (by decide)]; exact hK.2.2.1.1) hK.2.2.1.2 (fun a h1 h2 => hA a (by omega) (by omega) (by omega)) (fun i hi => by rw [hA _ (by omega) (by omega) (by omega)]; exact hK.2.2.2.2 i hi), mOK_of hM ((hk 0 (by decide) (by decide)).trans hM.1.1) hM.1.2 (hk 8 (by decide) (by decide)) ((hk 9 (by decide) (by decide)).trans hM.2.2.1.1) hM.2.2.1.2 (hA _ (by omega) (by omega) (by decide)) (hA _ (by omega) (by omega) (by decide)) (fun i hi => by rw [hA 61 (by omega) (by omega) (by decide), hA 62 (by omega) (by omega) (by decide)]; exact hM.2.2.2.2 i hi), fun i hi => ?_, shRel_c hS (fun a h1 h2 => hA a (by omega) (by omega) (by omega)) (hA _ (by omega) (by omega) (by decide)) (hA _ (by omega) (by omega) (by decide)) (hA _ (by omega) (by omega) (by decide)), hT', imRel_c hI (Nat.le_refl _) (by rw [hA 0 (by omega) (by omega) (by decide)]) (by rw [hA 0 (by omega) (by omega) (by decide)]) (fun k h1 h2 => hk k h2 (by omega)) (fun i hi => hA _ (by omega) (by omega) (by omega)) (fun i hi => iRow_c (hA _ (by omega) (by omega) (by decide)) (hA _ (by omega) (by omega) (by decide)) (hA _ (by omega) (by omega) (by decide))), fun i hi => by rw [hA _ (by omega) (by omega) (by omega)]; exact hO i hi, fun i hi => by rw [hA 66 (by omega) (by omega) (by decide), hA 62 (by omega) (by omega) (by decide)]; exact hO2 i hi, fun j hj => by rw [hA 71 (by omega) (by omega) (by decide)]; exact hW j hj⟩
  rw [hA _ (by omega) (by omega) (by omega), mRow_c (hA _ (by omega) (by omega) (by decide)) (hA _ (by omega) (by omega) (by decide)) (hA _ (by omega) (by omega) (by decide))]
  exact hR i hi
theorem feed_b {n a b c d e : Int32} (h : okFeed n a b c d e = true) : (∃ N, N ≤ 5 ∧ n = nI N) ∧ ∀ k, ¬ fdB (nI k) a b c d e < 0 := by
  simp only [okFeed, Bool.and_eq_true, xin_iff] at h
  obtain ⟨⟨⟨⟨⟨⟨h1, h2⟩, ha⟩, hb⟩, hc⟩, hd⟩, he⟩ := h
  constructor
  · obtain ⟨N, hN, rfl⟩ := nI_of (x := n) (Int32.not_lt.mpr (by grind))
    exact ⟨N, (nI_leI hN (by decide)).mp h2, rfl⟩
  · intro k
    unfold fdB
    repeat' split
    all_goals (apply Int32.not_lt.mpr; grind)
