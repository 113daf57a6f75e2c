section ZC
variable {wd g g' : Nat → Int32} {n : Nat}
theorem rB_c (h : ∀ j, j < n → g j = g' j) (p : Nat) : rB g n p = rB g' n p := by
  unfold rB
  by_cases e : p < n
  · rw [if_pos e, if_pos e, h p e]
  · rw [if_neg e, if_neg e]
theorem rRun_c {P : Int32 → Bool} (h : ∀ j, j < n → g j = g' j) : ∀ k p, rRun P g n k p = rRun P g' n k p
  | 0, _ => rfl
  | k + 1, p => by rw [rRun, rRun, rB_c h, rRun_c h k]
theorem zCh_c (h : ∀ j, j < n → g j = g' j) {e : Nat} (he : e ≤ n) (q k : Nat) : zCh g q e k = zCh g' q e k := by
  unfold zCh
  by_cases c1 : q + k < e
  · rw [if_pos c1, if_pos c1, h _ (by omega)]
  · rw [if_neg c1, if_neg c1]
theorem zLk_c (h : ∀ j, j < n → g j = g' j) {e : Nat} (he : e ≤ n) (q k : Nat) : ∀ m, zLk wd g q e k m = zLk wd g' q e k m
  | 0 => rfl
  | m + 1 => by rw [zLk, zLk, zLk_c h he q k m, zCh_c h he]
theorem zWf_c (h : ∀ j, j < n → g j = g' j) {e : Nat} (he : e ≤ n) (q : Nat) : ∀ r k, zWf wd g q e r k = zWf wd g' q e r k
  | 0, _ => rfl
  | r + 1, k => by rw [zWf, zWf, zLk_c h he, zWf_c h he q r]
theorem zDv_c (h : ∀ j, j < n → g j = g' j) (q : Nat) : ∀ i, q + i ≤ n → zDv g q i = zDv g' q i
  | 0, _ => rfl
  | i + 1, hi => by rw [zDv, zDv, zDv_c h q i (by omega), h (q + i) (by omega)]
theorem zTk_c (h : ∀ j, j < n → g j = g' j) (q : Nat) : zTk wd g n q = zTk wd g' n q := by
  unfold zTk
  by_cases hq : n ≤ q
  · rw [if_pos hq, if_pos hq]
  · rw [if_neg hq, if_neg hq, h q (by omega), rRun_c (g := g) (g' := g') h, rRun_c (g := g) (g' := g') h, zWf_c h (rRun_n (by decide) g' n 160 q (by omega))]
theorem zVa_c (h : ∀ j, j < n → g j = g' j) (q : Nat) : zVa wd g n q = zVa wd g' n q := by
  unfold zVa
  by_cases hq : n ≤ q
  · rw [if_pos hq, if_pos hq]
  · have hb := rRun_n (P := bDigit) (by decide) g' n 160 q (by omega)
    have hb2 := (rRun_b bDigit g' n 160 q).1
    rw [if_neg hq, if_neg hq, h q (by omega), rRun_c (g := g) (g' := g') h, rRun_c (g := g) (g' := g') h, zWf_c h (rRun_n (by decide) g' n 160 q (by omega)), zDv_c h q _ (by omega)]
theorem zBl_c (h : ∀ j, j < n → g j = g' j) (p : Nat) : zBl g n p = zBl g' n p := rRun_c h 160 p
theorem vNx_c (h : ∀ j, j < n → g j = g' j) (q : Nat) : vNx g n q = vNx g' n q := by
  unfold vNx
  rw [rB_c h, rRun_c (g := g) (g' := g') h, rRun_c (g := g) (g' := g') h]
theorem zRun_c (h : ∀ j, j < n → g j = g' j) : ∀ f p K o cs w y, zRun wd g n f p K o cs w y = zRun wd g' n f p K o cs w y
  | 0, _, _, _, _, _, _ => rfl
  | f + 1, p, K, o, cs, w, y => by
    rw [zRun, zRun, zBl_c h, zTk_c h, zVa_c h, vNx_c h]
    generalize zStp (zTk wd g' n (zBl g' n p)) (zVa wd g' n (zBl g' n p)) K o cs w y = z
    cases z with
    | inl r => rfl
    | inr s => exact zRun_c h f _ _ _ _ _ _
theorem zGd_c (h : ∀ j, j < n → g j = g' j) {k : Int32} {p p' : Nat} {cs cs' : List Int32} : zGd wd g n k p cs p' cs' = zGd wd g' n k p cs p' cs' := by
  unfold zGd zE
  simp only [zBl_c (g := g) (g' := g') h, zTk_c (g := g) (g' := g') h, zVa_c (g := g) (g' := g') h, vNx_c (g := g) (g' := g') h, zRun_c (g := g) (g' := g') h]
theorem zGe_c (h : ∀ j, j < n → g j = g' j) {p : Nat} : (zTk wd g n (zBl g n p) = 0) = (zTk wd g' n (zBl g' n p) = 0) := by
  rw [zBl_c h, zTk_c h]
theorem zBd_c (h : ∀ j, j < n → g j = g' j) {k : Int32} {p q : Nat} {cs : List Int32} : zBd wd g n k p cs q = zBd wd g' n k p cs q := by
  unfold zBd zE
  simp only [zBl_c (g := g) (g' := g') h, zTk_c (g := g) (g' := g') h, zVa_c (g := g) (g' := g') h, vNx_c (g := g) (g' := g') h, zRun_c (g := g) (g' := g') h]
theorem zTBad_c (h : ∀ j, j < n → g j = g' j) {q : Nat} : zTBad wd g n q = zTBad wd g' n q := by
  unfold zTBad
  simp only [zBl_c (g := g) (g' := g') h, zTk_c (g := g) (g' := g') h, zGd_c (g := g) (g' := g') h, zBd_c (g := g) (g' := g') h]
end ZC
theorem mTx_c2 {I J : xI} {t : Nat} {S : xSay} (h : mTx I t S) (h4 : ∀ x, x < 200 * t + 200 → J 64 x = I 64 x) (h5 : ∀ x, x < 4 * t + 4 → J 65 x = I 65 x) : mTx J t S := by
  obtain ⟨P, g1, g2, g3, g4, g5, g6, g7, g8⟩ := h
  exact ⟨P, g1, g2, (h5 _ (by omega)).trans g3, (h5 _ (by omega)).trans g4, (h5 _ (by omega)).trans g5, (h5 _ (by omega)).trans g6, fun j hj => (h4 _ (by omega)).trans (g7 j hj), g8⟩
theorem yTt : ∀ j, j < 6 → xYf (27 + 4 * j) = some (sText (27 + 4 * j)) ∧ xYf (27 + 4 * j + 1) = some (sInts 160) ∧ xYf (27 + 4 * j + 2) = some (sInts 3) ∧ xYf (27 + 4 * j + 3) = some (sVague 40)
  | 0, _ => ⟨rfl, rfl, rfl, rfl⟩
  | 1, _ => ⟨rfl, rfl, rfl, rfl⟩
  | 2, _ => ⟨rfl, rfl, rfl, rfl⟩
  | 3, _ => ⟨rfl, rfl, rfl, rfl⟩
  | 4, _ => ⟨rfl, rfl, rfl, rfl⟩
  | 5, _ => ⟨rfl, rfl, rfl, rfl⟩
  | n + 6, h => absurd h (by omega)
/-- when a text has been read: what is kept, on both sides -/
theorem RL_text {I J : xI} {hc tc tc' ln : Nat} {S S' : Nat → xSay} {sz : Nat → Nat} {n : Nat} (h : RL I hc tc ln S sz n) (htc : tc < 6) (ht' : tc' = tc ∨ tc' = tc + 1) (hc0 : ∀ k, k ≠ 11 → J 0 k = I 0 k) (hc11 : J 0 11 = nI tc') (hl : ∀ a, a < 59 → a ≠ 0 → a ≠ 11 → a ≠ 27 + 4 * tc → a ≠ 27 + 4 * tc + 1 → a ≠ 27 + 4 * tc + 2 → J a = I a) (hm : ∀ a, 60 ≤ a → a ≠ 64 → a ≠ 65 → J a = I a) (h64 : ∀ x, x < 200 * tc → J 64 x = I 64 x) (h65 : ∀ x, x < 4 * tc → J 65 x = I 65 x) (h59 : ∀ k, k < 18 → k ≠ 5 → k ≠ 8 → J 59 k = I 59 k) (h8 : J 59 8 = nI tc') (hS' : ∀ j, j < tc → S' j = S j) (hn1 : tc' = tc + 1 → xTx xYf J (27 + 4 * tc) (S' tc) ∧ mTx J tc (S' tc)) (e11 : J 11 2 = 0) (e5 : J 59 5 = 0) : RL J hc tc' ln S' sz 0 := by
  obtain ⟨hK, hM, hR, hSh, hT, hI, hO, hO2, hW⟩ := h
  have h5 := hM.1.2
  have htn : ∀ j, j < tc' → j < tc ∨ (j = tc ∧ tc' = tc + 1) := fun j hj => by omega
  refine ⟨⟨⟨(hc0 10 (by decide)).trans hK.1.1, h5⟩, ⟨hc11, by omega⟩, ⟨(hc0 12 (by decide)).trans hK.2.2.1.1, by have := hK.2.2.1.2; omega⟩, fun j hj => ?_, fun i hi => by rw [hl _ (by omega) (by omega) (by omega) (by omega) (by omega) (by omega)]; exact hK.2.2.2.2 i hi⟩, ⟨⟨(h59 0 (by decide) (by decide) (by decide)).trans hM.1.1, h5⟩, ⟨h8, by omega⟩, ⟨(h59 9 (by decide) (by decide) (by decide)).trans hM.2.2.1.1, by have := hM.2.2.1.2; omega⟩, fun j hj => ?_, fun i hi => by rw [hm 61 (by decide) (by decide) (by decide), hm 62 (by decide) (by decide) (by decide)]; exact hM.2.2.2.2 i hi⟩, fun i hi => ?_, shRel_c hSh (fun a h1 h2 => hl a h2 (by omega) (by omega) (by omega) (by omega) (by omega)) (hm _ (by decide) (by decide) (by decide)) (hm _ (by decide) (by decide) (by decide)) (hm _ (by decide) (by decide) (by decide)), ⟨e11, by decide, e5, ?_, fun j hj => absurd hj (Nat.not_lt_zero j)⟩, ?_, fun i hi => by rw [hl _ (by omega) (by omega) (by omega) (by omega) (by omega) (by omega)]; exact hO i hi, fun i hi => by rw [hm 66 (by decide) (by decide) (by decide), hm 62 (by decide) (by decide) (by decide)]; exact hO2 i hi, fun j hj => by rw [hm 71 (by decide) (by decide) (by decide)]; exact hW j hj⟩
  · rcases htn j hj with z | ⟨rfl, z⟩
    · rw [hS' j z]
      exact xTx_c (hK.2.2.2.1 j z) (hl _ (by omega) (by omega) (by omega) (by omega) (by omega) (by omega)) (hl _ (by omega) (by omega) (by omega) (by omega) (by omega) (by omega)) (hl _ (by omega) (by omega) (by omega) (by omega) (by omega) (by omega))
    · exact (hn1 z).1
  · rcases htn j hj with z | ⟨rfl, z⟩
    · rw [hS' j z]
      exact mTx_c2 (hM.2.2.2.1 j z) (fun x hx => h64 x (by omega)) (fun x hx => h65 x (by omega))
    · exact (hn1 z).2
  · rw [hl _ (by omega) (by omega) (by omega) (by omega) (by omega) (by omega), mRow_c (hm _ (by decide) (by decide) (by decide)) (hm _ (by decide) (by decide) (by decide)) (hm _ (by decide) (by decide) (by decide))]
    exact hR i hi
  · rw [hl 12 (by decide) (by decide) (by decide) (by omega) (by omega) (by omega), hm 63 (by decide) (by decide) (by decide)]
    exact fun j hj => absurd hj (Nat.not_lt_zero j)
  · have hI2 : imRel I hc tc' := by
      rcases hI with z | ⟨ic, il, i1, i2, i3, i4, i5, i6, i7, i8⟩
      · exact Or.inl z
      · exact Or.inr ⟨ic, il, i1, i2, i3, i4, i5, i6, by omega, i8⟩
    exact imRel_c hI2 (Nat.le_refl _) (hc0 13 (by decide)) (hc0 14 (by decide)) (fun k h1 h2 => h59 k (by omega) (by omega) (by omega)) (fun i hi => hl _ (by omega) (by omega) (by omega) (by omega) (by omega) (by omega)) (fun i hi => iRow_c (hm _ (by decide) (by decide) (by decide)) (hm _ (by decide) (by decide) (by decide)) (hm _ (by decide) (by decide) (by decide)))
theorem P3_all (X0 X1 X2 : List Int32) : tAll (P3 X0 X1 X2) = X0 ++ (X1 ++ X2) := rfl
theorem s_text (l : Launch) (G : xG) {d : Nat} (nn : Nat) (hd : 42 ≤ d) {I : xI} (hr : RI I) : ∃ J J' v, XM l G d y_X_text b_X_text 2 (some .int) 0 0 xK0 [.ref (xg G 0)] nn (xm G xYf I) (some (.int v)) nn (xm G xYf J) ∧ XM l G d y_Model_text b_Model_text 3 (some .int) 0 0 xK0 [.ref (xg G 59)] nn (xm G xYf J) (some (.int v)) nn (xm G xYf J') ∧ RI J' := by
  obtain ⟨hc, tc, ln, S, sz, n, hRL⟩ := id hr
  obtain ⟨hK, hM, hR, hS, hT, hI, hO, hO2, hW⟩ := id hRL
  have h5 := hM.1.2
  have hsz : sOK I sz := fun q hq => ⟨(hS q hq).2.1, (hS q hq).2.2.2.1⟩
  have hmz : msOK I sz := fun q hq => ⟨(hS q hq).2.2.1, (hS q hq).2.2.2.1⟩
  obtain ⟨t1, t2, t3, t4, t5⟩ := id hT
  have a := c_X_text l G (d := d) nn I hd hc tc ln S hK t2 t1
  have htc6 := hM.2.1.2
  by_cases h6 : 6 ≤ tc
  · have e : tc = 6 := by omega
    rw [aText, mText, if_pos h6, if_pos h6] at a
    have b := text_full l G (d := d) nn (by omega) I (by rw [hM.2.1.1, e])
    exact ⟨I, I, _, a, b, hr⟩
  · have htc : tc < 6 := by omega
    have hsim := read_sim (wd := I 71) (g := I 12) (n := n) (t := 27 + 4 * tc) hW t5 t2 (by omega) (I := I) rfl t1
    have hfr := fun x h1 h2 h3 h4 => fr_read (27 + 4 * tc) I x h1 h2 h3 h4
    generalize hR1 : iRead (27 + 4 * tc) I = R at *
    rcases hsim with ⟨p1, p2, p3, X0, X1, X2, g0, g1, g2, g3, f8, f4, flen, q0, q1, q2, qc, d0, d1, d2⟩ | ⟨q, hq, f8, hbad⟩
    · have e1 : mText I tc = xw (xw R 11 2 0) 0 11 (nI tc + 1) := by rw [mText, if_neg h6, hR1, if_pos (by rw [f8]; decide)]
      have e2 : aText I tc = nI tc := by rw [aText, if_neg h6, hR1, if_pos (by rw [f8]; decide)]
      rw [e1, e2] at a
      have hJ : ∀ x, x ≠ 0 → x ≠ 11 → (xw (xw R 11 2 0) 0 11 (nI tc + 1)) x = R x := fun x h1 h2 => by rw [xw_row _ _ _ h1, xw_row _ _ _ h2]
      have hJ0 : ∀ k, k ≠ 11 → (xw (xw R 11 2 0) 0 11 (nI tc + 1)) 0 k = I 0 k := fun k hk => by rw [xw_k _ _ _ hk, xw_row _ _ _ (by decide), hfr 0 (by decide) (by omega) (by omega) (by omega)]
      have hJ11 : (xw (xw R 11 2 0) 0 11 (nI tc + 1)) 0 11 = nI (tc + 1) := by rw [xw_s, nI_1]
      have hJ2 : (xw (xw R 11 2 0) 0 11 (nI tc + 1)) 11 2 = 0 := by rw [xw_row _ _ _ (by decide), xw_s]
      generalize xw (xw R 11 2 0) 0 11 (nI tc + 1) = J at *
      have hJI : ∀ x, x ≠ 0 → x ≠ 11 → x ≠ 27 + 4 * tc → x ≠ 27 + 4 * tc + 1 → x ≠ 27 + 4 * tc + 2 → J x = I x := fun x h0 h1 h2 h3 h4 => (hJ x h0 h1).trans (hfr x h1 h2 h3 h4)
      have hJge : ∀ x, 51 ≤ x → J x = I x := fun x hx => hJI x (by omega) (by omega) (by omega) (by omega) (by omega)
      have e63 : J 63 = I 63 := hJge 63 (by decide)
      have e71 : J 71 = I 71 := hJge 71 (by decide)
      obtain ⟨J', b, kp, k8, k64, k0, k1, k2, k3⟩ := Model_text_ok l G (d := d) nn (by omega) J tc (by rw [hJge 59 (by decide)]; exact hM.2.1.1) htc n (by rw [hJge 59 (by decide)]; exact t3) t2 (fun j hj => by rw [e63, ← t4 j hj]; exact t5 j hj) p1 p2 p3 X0 (X0 ++ X1) (X0 ++ X1 ++ X2) (by rw [e63, e71]; exact (zGd_c t4) ▸ g0) (by rw [e63, e71]; exact (zGd_c t4) ▸ g1) (by rw [e63, e71]; exact (zGd_c t4) ▸ g2) (by rw [e63, e71]; exact (zGe_c t4) ▸ g3)
      obtain ⟨v1, v2, v3, v4, v5⟩ := kp
      have hlen3 : X0.length + X1.length + X2.length = (X0 ++ X1 ++ X2).length := by simp only [List.length_append]
      have hall : tAll (P3 X0 X1 X2) = X0 ++ X1 ++ X2 := by rw [P3_all, List.append_assoc]
      have hlt : ∀ x, x = 27 + 4 * tc ∨ x = 27 + 4 * tc + 1 ∨ x = 27 + 4 * tc + 2 → J' x = R x := fun x hx => by rw [v1 x (by omega) (by omega) (by omega)]; exact hJ x (by omega) (by omega)
      refine ⟨J, J', _, a, b, hc, tc + 1, ln, fun j => if j = tc then tSay (P3 X0 X1 X2) else S j, sz, 0, RL_text hRL htc (Or.inr rfl) (fun k hk => by rw [v1 0 (by decide) (by decide) (by decide)]; exact hJ0 k hk) (by rw [v1 0 (by decide) (by decide) (by decide)]; exact hJ11) (fun x h1 h2 h3 h4 h5 h6 => by rw [v1 x (by omega) (by omega) (by omega)]; exact hJI x h2 h3 h4 h5 h6) (fun x h1 h2 h3 => by rw [v1 x (by omega) h2 h3]; exact hJge x (by omega)) (fun x hx => by rw [v2 x hx, hJge 64 (by decide)]) (fun x hx => by rw [v3 x hx, hJge 65 (by decide)]) (fun k h1 h2 h3 => by rw [v5 k h1 h2 h3, hJge 59 (by decide)]) k8 (fun j hj => if_neg (by omega)) (fun _ => ?_) (by rw [v1 11 (by decide) (by decide) (by decide)]; exact hJ2) v4⟩
      rw [if_pos rfl]
      constructor
      · refine ⟨yTt tc htc, P3 X0 X1 X2, rfl, by rw [hlt _ (Or.inl rfl)]; exact f4, by rw [hall]; exact flen, ?_, ?_, ?_, ?_, d0, d1, d2⟩
        · rw [hlt _ (Or.inr (Or.inr rfl))]; exact q0
        · rw [hlt _ (Or.inr (Or.inr rfl)), q1, List.length_append]; rfl
        · rw [hlt _ (Or.inr (Or.inr rfl)), q2, ← hlen3]; rfl
        · intro j hj
          rw [hall] at hj ⊢
          rw [hlt _ (Or.inr (Or.inl rfl))]
          exact qc j hj
      · refine ⟨P3 X0 X1 X2, rfl, by rw [hall]; exact flen, k0, k1, ?_, ?_, ?_, d0, d1, d2⟩
        · rw [k2, List.length_append]; rfl
        · rw [k3, ← hlen3]; rfl
        · intro j hj
          rw [hall] at hj ⊢
          rw [k64, zC, if_pos (by omega), Nat.add_sub_cancel_left]
    · have hn0 : ¬ R 11 8 < 0 := by rw [f8]; exact (nI_nn (by omega)).1
      have e1 : mText I tc = xw R 11 2 0 := by rw [mText, if_neg h6, hR1, if_neg hn0]
      have e2 : aText I tc = -100 - nI q := by rw [aText, if_neg h6, hR1, if_neg hn0, f8]
      rw [e1, e2] at a
      have hJ : ∀ x, x ≠ 11 → (xw R 11 2 0) x = R x := fun x h2 => by rw [xw_row _ _ _ h2]
      have hJ2 : (xw R 11 2 0) 11 2 = 0 := by rw [xw_s]
      generalize xw R 11 2 0 = J at *
      have hJI : ∀ x, x ≠ 11 → x ≠ 27 + 4 * tc → x ≠ 27 + 4 * tc + 1 → x ≠ 27 + 4 * tc + 2 → J x = I x := fun x h1 h2 h3 h4 => (hJ x h1).trans (hfr x h1 h2 h3 h4)
      have hJge : ∀ x, 51 ≤ x → J x = I x := fun x hx => hJI x (by omega) (by omega) (by omega) (by omega)
      have e63 : J 63 = I 63 := hJge 63 (by decide)
      have e71 : J 71 = I 71 := hJge 71 (by decide)
      have h8J : J 59 8 = nI tc := by rw [hJge 59 (by decide)]; exact hM.2.1.1
      obtain ⟨J', b, kp, k8⟩ := Model_text_bad l G (d := d) nn (by omega) J tc h8J htc n (by rw [hJge 59 (by decide)]; exact t3) t2 (fun j hj => by rw [e63, ← t4 j hj]; exact t5 j hj) q (by rw [e63, e71]; exact (zTBad_c t4) ▸ hbad)
      obtain ⟨v1, v2, v3, v4, v5⟩ := kp
      exact ⟨J, J', _, a, b, hc, tc, ln, S, sz, 0, RL_text hRL htc (Or.inl rfl) (fun k hk => by rw [v1 0 (by decide) (by decide) (by decide), hJI 0 (by decide) (by omega) (by omega) (by omega)]) (by rw [v1 0 (by decide) (by decide) (by decide), hJI 0 (by decide) (by omega) (by omega) (by omega)]; exact hK.2.1.1) (fun x h1 h2 h3 h4 h5 h6 => by rw [v1 x (by omega) (by omega) (by omega)]; exact hJI x h3 h4 h5 h6) (fun x h1 h2 h3 => by rw [v1 x (by omega) h2 h3]; exact hJge x (by omega)) (fun x hx => by rw [v2 x hx, hJge 64 (by decide)]) (fun x hx => by rw [v3 x hx, hJge 65 (by decide)]) (fun k h1 h2 h3 => by rw [v5 k h1 h2 h3, hJge 59 (by decide)]) (k8.trans h8J) (fun _ _ => rfl) (fun z => absurd z (by omega)) (by rw [v1 11 (by decide) (by decide) (by decide)]; exact hJ2) v4⟩
