theorem RC_adv0 {g : Nat → Int32} {n t : Nat} {I : xI} {p : Nat} {cs : List Int32} {o : Nat} (hn : n ≤ 160) (ht : 15 ≤ t) (h12 : I 12 = g) (h2 : I 11 2 = nI n) (hp : p ≤ n) (h3 : I 11 3 = nI p) (h7 : I 11 7 = nI o) (h8 : I 11 8 = -1) (ht3 : I t 3 = nI cs.length) (hc : ∀ j, j < cs.length → I (t + 1) j = tCode (cs.getD j 0)) : RC g n t (iAdv I) p cs o := by
  have e1 : (I 11 2).toNatClampNeg = n := by rw [h2, nI_cl (by omega)]
  have e2 : (I 11 3).toNatClampNeg = p := by rw [h3, nI_cl (by omega)]
  have e : iAdv I = xup I 11 (vAd (I 11) g n (zBl g n p) (I 11 6) (I 11 7) (I 11 8)) := by rw [iAdv, e1, e2, h12]; rfl
  rw [e]
  refine ⟨⟨?_, ?_, hp⟩, ⟨?_, ?_, ?_, I 11 6, ?_⟩, ?_, ?_, ?_, fun j hj => ?_⟩
  · rw [xup_n _ _ (by decide)]; exact h12
  · rw [xup_s, vAd, rQ_2]; exact h2
  · rw [xup_s, vAd, rQ_3]
  · rw [xup_s, vAd, rQ_4]
  · rw [xup_s, vAd, rQ_5]
  · rw [xup_s, vAd, rQ_6]
  · rw [xup_s, vAd, rQ_7]; exact h7
  · rw [xup_s, vAd, rQ_8]; exact h8
  · rw [xup_n _ _ (by omega)]; exact ht3
  · rw [xup_n _ _ (by omega)]; exact hc j hj
theorem iAdv_8 (I : xI) : (iAdv I) 11 8 = I 11 8 := by rw [iAdv, xup_s, vAd, rQ_8]
theorem iAdv_o {t : Nat} (h : t ≠ 11) (I : xI) : (iAdv I) t = I t := xup_n _ _ h
def P3 (X0 X1 X2 : List Int32) : Nat → List Int32 := fun i => if i = 0 then X0 else if i = 1 then X1 else X2
theorem beg_adv {g : Nat → Int32} {n t : Nat} (hn : n ≤ 160) (ht : 15 ≤ t) {I : xI} (h12 : I 12 = g) (h2 : I 11 2 = nI n) : RC g n t (iAdv (iBeg t I)) 0 [] 0 ∧ (iAdv (iBeg t I)) t 4 = nI 0 := by
  have b12 : (iBeg t I) 12 = g := by
    unfold iBeg iClr
    rw [xw_row _ _ _ (by decide), xw_row _ _ _ (by decide), xw_row _ _ _ (by decide), xw_row _ _ _ (by omega), xw_row _ _ _ (by omega)]
    exact h12
  have b2 : (iBeg t I) 11 2 = nI n := by
    unfold iBeg iClr
    rw [xw_k _ _ _ (by decide), xw_k _ _ _ (by decide), xw_k _ _ _ (by decide), xw_row _ _ _ (by omega), xw_row _ _ _ (by omega)]
    exact h2
  have b3 : (iBeg t I) 11 3 = nI 0 := by
    unfold iBeg
    rw [xw_k _ _ _ (by decide), xw_k _ _ _ (by decide), xw_s]
    rfl
  have b7 : (iBeg t I) 11 7 = nI 0 := by
    unfold iBeg
    rw [xw_k _ _ _ (by decide), xw_s]
    rfl
  have b8 : (iBeg t I) 11 8 = -1 := by
    unfold iBeg
    rw [xw_s]
  have bt3 : (iBeg t I) t 3 = nI 0 := by
    unfold iBeg iClr
    rw [xw_row _ _ _ (by omega), xw_row _ _ _ (by omega), xw_row _ _ _ (by omega), xw_k _ _ _ (by decide), xw_s]
    rfl
  have bt4 : (iBeg t I) t 4 = nI 0 := by
    unfold iBeg iClr
    rw [xw_row _ _ _ (by omega), xw_row _ _ _ (by omega), xw_row _ _ _ (by omega), xw_s]
    rfl
  exact ⟨RC_adv0 hn ht b12 b2 (Nat.zero_le _) b3 b7 b8 (cs := []) bt3 (fun j hj => absurd hj (Nat.not_lt_zero j)), by rw [iAdv_o (by omega)]; exact bt4⟩
theorem read_sim {wd g : Nat → Int32} {n t : Nat} (hW : ∀ j, j < 96 → wd j = zWd j) (hB : ∀ j, j < n → ¬ g j < 0) (hn : n ≤ 160) (ht : 15 ≤ t) {I : xI} (h12 : I 12 = g) (h2 : I 11 2 = nI n) :
    (∃ p1 p2 p3 X0 X1 X2, zGd wd g n 0 0 [] p1 X0 ∧ zGd wd g n 1 p1 X0 p2 (X0 ++ X1) ∧ zGd wd g n 2 p2 (X0 ++ X1) p3 (X0 ++ X1 ++ X2) ∧ zTk wd g n (zBl g n p3) = 0 ∧ (iRead t I) 11 8 = -1 ∧ (iRead t I) t 4 = 3 ∧ (X0 ++ X1 ++ X2).length ≤ 160 ∧ (iRead t I) (t + 2) 0 = nI X0.length ∧ (iRead t I) (t + 2) 1 = nI (X0 ++ X1).length ∧ (iRead t I) (t + 2) 2 = nI (X0 ++ X1 ++ X2).length ∧ (∀ j, j < (X0 ++ X1 ++ X2).length → (iRead t I) (t + 1) j = tCode ((X0 ++ X1 ++ X2).getD j 0)) ∧ tDep X0 0 = true ∧ tDep X1 0 = true ∧ tDep X2 0 = true) ∨ (∃ q, q ≤ 160 ∧ (iRead t I) 11 8 = nI q ∧ zTBad wd g n q) := by
  obtain ⟨hr, h4⟩ := beg_adv hn ht h12 h2
  have e0 : iRead t I = iExp 0 (iPart t (128 + nI 2) (iPart t (128 + nI 1) (iPart t (128 + nI 0) (iAdv (iBeg t I))))) := rfl
  rw [e0]
  have hstk := part_stk (wd := wd) hW hB hn ht
  have hf : ∀ {q : Nat} {J : xI}, q ≤ 160 → J 11 8 = nI q → 0 ≤ J 11 8 := fun hq e => by rw [e]; exact Int32.not_lt.mp (nI_pos (by omega))
  rcases part_sim (wd := wd) hW hB hn ht (k := 0) (by decide) hr (Nat.le_refl _) h4 with ⟨p1, X0, a1, a2, a3, a4, a5, a6⟩ | ⟨q, a1, a2, a3⟩
  · rw [List.nil_append] at a1 a2 a4 a6
    rcases part_sim (wd := wd) hW hB hn ht (k := 1) (by decide) a1 a4 a5 with ⟨p2, X1, b1, b2, b3, b4, b5, b6⟩ | ⟨q, b1, b2, b3⟩
    · rcases part_sim (wd := wd) hW hB hn ht (k := 2) (by decide) b1 b4 b5 with ⟨p3, X2, d1, d2, d3, d4, d5, d6⟩ | ⟨q, d1, d2, d3⟩
      · have hp3 := d1.1.2.2
        have hbl := zBl_b g hp3
        have htk := zLk_tok (wd := wd) hW hB hn hp3
        by_cases hz : zc g n p3 = 0
        · rw [iExp_y d1 hz]
          refine Or.inl ⟨p1, p2, p3, X0, X1, X2, a2, b2, d2, by rw [htk, hz]; rfl, by rw [iAdv_8]; exact d1.2.2.2.1, by rw [iAdv_o (by omega)]; exact d5, by omega, ?_, ?_, ?_, fun j hj => by rw [iAdv_o (by omega)]; exact d1.2.2.2.2.2 j hj, a3, b3, d3⟩
          · rw [iAdv_o (by omega), d6, xup_n _ _ (by decide), b6, xup_n _ _ (by decide), a6, xup_s]
          · rw [iAdv_o (by omega), d6, xup_n _ _ (by decide), b6, xup_s]
          · rw [iAdv_o (by omega), d6, xup_s]
        · refine Or.inr ⟨zBl g n p3, by omega, iExp_n hn d1 hz, Or.inr ⟨p1, X0, a2, Or.inr ⟨p2, _, b2, Or.inr ⟨p3, _, d2, fun z => hz ?_, rfl⟩⟩⟩⟩
          have hrg : zc g n p3 = -1 ∨ zc g n p3 = 0 ∨ zc g n p3 = 1 ∨ zc g n p3 = 40 ∨ zc g n p3 = 41 ∨ zc g n p3 = 59 ∨ zc g n p3 = 43 ∨ zc g n p3 = 45 ∨ zc g n p3 = 42 ∨ zc g n p3 = 60 ∨ zc g n p3 = 61 ∨ zc g n p3 = 128 ∨ zc g n p3 = 129 ∨ zc g n p3 = 130 ∨ zc g n p3 = 131 ∨ zc g n p3 = 132 ∨ zc g n p3 = 133 ∨ zc g n p3 = 134 ∨ zc g n p3 = 135 ∨ zc g n p3 = 136 ∨ zc g n p3 = 137 ∨ zc g n p3 = 138 ∨ zc g n p3 = 139 := vTk_rng g n (zBl g n p3)
          exact (tkOf_3 hrg).2 (htk.symm.trans z)
      · exact Or.inr ⟨q, d1, by rw [iExp_f (hf d1 d2)]; exact d2, Or.inr ⟨p1, X0, a2, Or.inr ⟨p2, _, b2, Or.inl d3⟩⟩⟩
    · have s2 := hstk (128 + nI 2) _ (hf b1 b2)
      have e2 := s2.trans b2
      exact Or.inr ⟨q, b1, by rw [iExp_f (hf b1 e2)]; exact e2, Or.inr ⟨p1, X0, a2, Or.inl b3⟩⟩
  · have s1 := hstk (128 + nI 1) _ (hf a1 a2)
    have e1 := s1.trans a2
    have s2 := hstk (128 + nI 2) _ (hf a1 e1)
    have e2 := s2.trans e1
    exact Or.inr ⟨q, a1, by rw [iExp_f (hf a1 e2)]; exact e2, Or.inl a3⟩
