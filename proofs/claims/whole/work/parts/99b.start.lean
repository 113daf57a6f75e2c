theorem jm_lt {a : Nat} (ha : a < 59) (I : xI) : jMod I a = I a := by
  unfold jMod iMod
  rw [xw_row _ _ _ (by omega)]
  repeat rw [xup_n _ _ (by omega)]
theorem jX_o {a : Nat} (h0 : a ≠ 0) (h11 : a ≠ 11) (h12 : a ≠ 12) (h27 : a ≠ 27) (h28 : a ≠ 28) (h29 : a ≠ 29) : jX a = iZ a := by
  unfold jX
  rw [xw_row _ _ _ h0, xw_row _ _ _ h11, fr_read 27 (jT 48) a h11 h27 h28 h29, jT, xw_row _ _ _ h11, xup_n _ _ h12]
theorem jX_t {a : Nat} (h0 : a ≠ 0) (h11 : a ≠ 11) : jX a = iRead 27 (jT 48) a := by
  unfold jX
  rw [xw_row _ _ _ h0, xw_row _ _ _ h11]
theorem jX_0 {k : Nat} (h : k ≠ 11) : jX 0 k = iZ 0 k := by
  unfold jX
  rw [xw_k _ _ _ h, xw_row _ _ _ (by decide), fr_read 27 (jT 48) 0 (by decide) (by decide) (by decide) (by decide), jT, xw_row _ _ _ (by decide), xup_n _ _ (by decide)]
theorem jX_011 : jX 0 11 = 1 := by rw [jX, xw_s]
theorem jX_112 : jX 11 2 = 0 := by rw [jX, xw_row _ _ _ (by decide), xw_s]
theorem mR_start (G : xG) : xup (xm G xYc jX) 59 (some (.inl (.inr (5, vMod G 60)))) = mR G 59 5 60 jX (vMod G 60) := by
  funext k
  rw [mR]
  by_cases h : k = 59
  · rw [h, xup_s, xup_s]
  · rw [xup_n _ _ h, xup_n _ _ h]
    show (xYc k).map _ = (xYn 60 k).map _
    rw [← xYn_59, xYn_s h]
theorem first_sim : ∃ X0 X1 X2 : List Int32, X0 = mc1 ∧ X0 ++ X1 = mc2 ∧ X0 ++ X1 ++ X2 = mc3 ∧ (iRead 27 (jT 48)) 27 4 = 3 ∧ (X0 ++ X1 ++ X2).length ≤ 160 ∧ (iRead 27 (jT 48)) 29 0 = nI X0.length ∧ (iRead 27 (jT 48)) 29 1 = nI (X0 ++ X1).length ∧ (iRead 27 (jT 48)) 29 2 = nI (X0 ++ X1 ++ X2).length ∧ (∀ j, j < (X0 ++ X1 ++ X2).length → (iRead 27 (jT 48)) 28 j = tCode ((X0 ++ X1 ++ X2).getD j 0)) ∧ tDep X0 0 = true ∧ tDep X1 0 = true ∧ tDep X2 0 = true := by
  rcases read_sim (wd := xla wWords) (g := xla wFirst) (n := 48) (t := 27) tx_wd tx_pos (by decide) (by decide) (I := jT 48) ((jT_12 48).trans rfl) (jT_2 48) with ⟨p1, p2, p3, X0, X1, X2, g0, g1, g2, g3, f8, f4, flen, q0, q1, q2, qc, d0, d1, d2⟩ | ⟨q, hq, f8, hbad⟩
  · obtain ⟨a1, a2⟩ := zGd_fun g0 (fK_gd tx_c0 rfl tx_d0)
    rw [a1, a2] at g1
    obtain ⟨b1, b2⟩ := zGd_fun g1 (fK_gd tx_c1 rfl tx_d1)
    rw [b1, a2, b2] at g2
    obtain ⟨-, e2⟩ := zGd_fun g2 (fK_gd tx_c2 rfl tx_d2)
    exact ⟨X0, X1, X2, a2, by rw [a2]; exact b2, by rw [a2, b2]; exact e2, f4, flen, q0, q1, q2, qc, d0, d1, d2⟩
  · exfalso
    rcases hbad with z | ⟨p1, c1, g0, z⟩
    · exact zGd_nbd (fK_gd tx_c0 rfl tx_d0) z
    · obtain ⟨a1, a2⟩ := zGd_fun g0 (fK_gd tx_c0 rfl tx_d0)
      rw [a1, a2] at z
      rcases z with z | ⟨p2, c2, g1, z⟩
      · exact zGd_nbd (fK_gd tx_c1 rfl tx_d1) z
      · obtain ⟨b1, b2⟩ := zGd_fun g1 (fK_gd tx_c1 rfl tx_d1)
        rw [b1, b2] at z
        rcases z with z | ⟨p3, c3, g2, z, -⟩
        · exact zGd_nbd (fK_gd tx_c2 rfl tx_d2) z
        · obtain ⟨e1, -⟩ := zGd_fun g2 (fK_gd tx_c2 rfl tx_d2)
          rw [e1] at z
          exact z tx_c3
theorem iZ_z {a : Nat} (h : a ≠ 0) (h1 : a ≠ 15) (h2 : a ≠ 51) (h3 : a ≠ 53) (h4 : a ≠ 55) (h5 : a ≠ 57) : iZ a = fun _ => 0 := by
  unfold iZ
  split <;> first | contradiction | rfl
theorem RI_start {J' : xI} (kp : KP 0 (jMod jX) J') (k8 : J' 59 8 = nI 1) (k64 : J' 64 = zC 0 mc3 (jMod jX 64)) (k0 : J' 65 0 = nI 0) (k1 : J' 65 1 = nI mc1.length) (k2 : J' 65 2 = nI mc2.length) (k3 : J' 65 3 = nI mc3.length) : RI J' := by
  obtain ⟨v1, v2, v3, v4, v5⟩ := kp
  obtain ⟨X0, X1, X2, e0, e1, e2, f4, flen, q0, q1, q2, qc, d0, d1, d2⟩ := first_sim
  have hJ : ∀ a, a < 59 → J' a = jX a := fun a ha => (v1 a (by omega) (by omega) (by omega)).trans (jm_lt ha jX)
  have hZ' : ∀ a, a < 59 → a ≠ 0 → a ≠ 11 → a ≠ 12 → a ≠ 27 → a ≠ 28 → a ≠ 29 → J' a = iZ a := fun a h1 h2 h3 h4 h5 h6 h7 => (hJ a h1).trans (jX_o h2 h3 h4 h5 h6 h7)
  have h60 : J' 60 = fun _ => 0 := v1 60 (by decide) (by decide) (by decide)
  have h61 : J' 61 = fun _ => 0 := v1 61 (by decide) (by decide) (by decide)
  have h62 : J' 62 = fun _ => 0 := v1 62 (by decide) (by decide) (by decide)
  have h66 : J' 66 = fun _ => 0 := v1 66 (by decide) (by decide) (by decide)
  have h67 : J' 67 = xla wSort := v1 67 (by decide) (by decide) (by decide)
  have h68 : J' 68 = fun _ => 0 := v1 68 (by decide) (by decide) (by decide)
  have h69 : J' 69 = fun _ => 0 := v1 69 (by decide) (by decide) (by decide)
  have h71 : J' 71 = xla wWords := v1 71 (by decide) (by decide) (by decide)
  have h59 : ∀ k, k < 18 → k ≠ 5 → k ≠ 8 → J' 59 k = 0 := fun k a b c1 => by
    rw [v5 k a b c1, jMod, xw_k _ _ _ b, xup_n _ _ (by decide), iMod, xup_s]
  have hd7 : ∀ a, a = 17 ∨ a = 18 ∨ a = 19 ∨ a = 20 ∨ a = 21 ∨ a = 22 ∨ a = 23 ∨ a = 24 ∨ a = 25 ∨ a = 26 → hOK (J' a) := fun a ha => by
    rw [hZ' a (by omega) (by omega) (by omega) (by omega) (by omega) (by omega) (by omega), iZ_z (by omega) (by omega) (by omega) (by omega) (by omega) (by omega)]
    exact ⟨Or.inl rfl, fun _ _ => rfl⟩
  have hall : tAll (P3 X0 X1 X2) = X0 ++ X1 ++ X2 := by rw [P3_all, List.append_assoc]
  have hlen3 : X0.length + X1.length + X2.length = (X0 ++ X1 ++ X2).length := by simp only [List.length_append]
  have ht : ∀ a, a = 27 ∨ a = 28 ∨ a = 29 → J' a = iRead 27 (jT 48) a := fun a ha => (hJ a (by omega)).trans (jX_t (by omega) (by omega))
  refine ⟨0, 1, 0, fun _ => tSay (P3 X0 X1 X2), fun _ => 0, 0, ⟨⟨by rw [hJ 0 (by decide), jX_0 (by decide)]; rfl, by decide⟩, ⟨by rw [hJ 0 (by decide), jX_011]; rfl, by decide⟩, ⟨by rw [hJ 0 (by decide), jX_0 (by decide)]; rfl, by decide⟩, fun j hj => ?_, fun i hi => hd7 _ (by omega)⟩, ⟨⟨h59 0 (by decide) (by decide) (by decide), by decide⟩, ⟨k8, by decide⟩, ⟨h59 9 (by decide) (by decide) (by decide), by decide⟩, fun j hj => ?_, fun i hi => by rw [h61, h62]; exact ⟨⟨(by decide : ¬ (0 : Int32) < 0), (by decide : (0 : Int32) ≤ 9)⟩, Or.inl rfl⟩⟩, fun i hi => absurd hi (Nat.not_lt_zero i), fun p hp => ?_, ⟨by rw [hJ 11 (by decide), jX_112]; rfl, by decide, v4, fun j hj => absurd hj (Nat.not_lt_zero j), fun j hj => absurd hj (Nat.not_lt_zero j)⟩, Or.inl ⟨by rw [hJ 0 (by decide), jX_0 (by decide)]; rfl, h59 10 (by decide) (by decide) (by decide)⟩, fun i hi => hd7 _ (by omega), fun i hi => by rw [h66, h62]; exact ⟨Or.inl rfl, ⟨(by decide : (0 : Int32) ≤ 0), (by decide : (0 : Int32) ≤ 99)⟩, (by decide : (0 : Int32) ≤ 0), (by decide : (0 : Int32) ≤ 99)⟩, fun j hj => by rw [h71]; exact tx_wd j hj⟩
  · have j0 : j = 0 := by omega
    rw [j0]
    refine ⟨yTt 0 (by decide), P3 X0 X1 X2, rfl, by rw [ht _ (Or.inl rfl)]; exact f4, by rw [hall]; exact flen, ?_, ?_, ?_, ?_, d0, d1, d2⟩
    · rw [ht _ (Or.inr (Or.inr rfl))]; exact q0
    · rw [ht _ (Or.inr (Or.inr rfl))]; exact q1.trans (by rw [List.length_append]; rfl)
    · rw [ht _ (Or.inr (Or.inr rfl))]; exact q2.trans (by rw [← hlen3]; rfl)
    · intro j hj
      rw [hall] at hj ⊢
      rw [ht _ (Or.inr (Or.inl rfl))]
      exact qc j hj
  · have j0 : j = 0 := by omega
    rw [j0]
    refine ⟨P3 X0 X1 X2, rfl, by rw [hall]; exact flen, k0, by rw [← e0] at k1; exact k1, ?_, ?_, ?_, d0, d1, d2⟩
    · rw [← e1, List.length_append] at k2; exact k2
    · rw [← e2, ← hlen3] at k3; exact k3
    · intro j hj
      rw [hall] at hj ⊢
      rw [k64, zC, if_pos (by rw [← e2]; omega), ← e2, show 200 * 0 + j - 0 = j by omega]
  · have hp4 : p = 0 ∨ p = 1 ∨ p = 2 ∨ p = 3 := by omega
    rcases hp4 with rfl | rfl | rfl | rfl <;> exact ⟨by rw [hZ' _ (by decide) (by decide) (by decide) (by decide) (by decide) (by decide) (by decide), h67]; rfl, by rw [hZ' _ (by decide) (by decide) (by decide) (by decide) (by decide) (by decide) (by decide)]; rfl, by rw [h68]; rfl, by decide, fun k _ => by rw [hZ' _ (by decide) (by decide) (by decide) (by decide) (by decide) (by decide) (by decide), h69]; rfl⟩
