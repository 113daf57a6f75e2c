theorem s_cell (l : Launch) (G : xG) {d : Nat} (nn : Nat) (hd : 42 ≤ d) {I : xI} (hr : RI I) (s x v : Int32) : ∃ J J' v1, XM l G d y_X_cell b_X_cell 5 (some .int) 0 0 xK0 [.ref (xg G 0), .int s, .int x, .int v] nn (xm G xYf I) (some (.int v1)) nn (xm G xYf J) ∧ XM l G d y_Model_cell b_Model_cell 4 (some .int) 0 0 xK0 [.ref (xg G 59), .int s, .int x, .int v] nn (xm G xYf J) (some (.int v1)) nn (xm G xYf J') ∧ RI J' := by
  obtain ⟨hc, tc, ln, S, sz, n, hRL⟩ := id hr
  obtain ⟨hK, hM, hR, hS, hT, hI, hO, hO2, hW⟩ := id hRL
  have h5 := hM.1.2
  have hsz : sOK I sz := fun q hq => ⟨(hS q hq).2.1, (hS q hq).2.2.2.1⟩
  have hmz : msOK I sz := fun q hq => ⟨(hS q hq).2.2.1, (hS q hq).2.2.2.1⟩
  have a := c_X_cell l G (d := d) nn I (by omega) hc tc ln S hK s x v
  have hs : ∀ q, q < 4 → (fun q => I (51 + 2 * q) 1) q = I 67 q := fun q hq => (hS q hq).1
  by_cases ht : rSheet (I 67) s = 0
  · obtain ⟨q, hq, rfl, -⟩ := rSheet_ok ht
    obtain ⟨a1, a2, a3, a4, a5⟩ := hS q hq
    have e : xin x 0 (nI (sz q) - 1) = true ↔ shHas (I (51 + 2 * q)) x = true := (xTop a4 x).trans (shHas_n a4 a2 x).symm
    have hrs : rSheet (fun q => I (51 + 2 * q) 1) (nI q) = 0 := by rw [rSheet_c hs]; exact ht
    by_cases hx : shHas (I (51 + 2 * q)) x = true
    · obtain ⟨k, hk, rfl⟩ := (shHas_n a4 a2 x).mp hx
      have e1 : mCell I (nI q) (nI k) v = xw I (51 + 2 * q + 1) k (shNar (I 67 q) v) := by rw [mCell, if_pos hrs, nI_cl (show q < 2 ^ 31 by omega), if_pos hx, shPut, if_pos hx, nI_cl (show k < 2 ^ 31 by omega), a1]
      have ea : aCell I (nI q) (nI k) v = 1 := by rw [aCell, if_pos hrs, nI_cl (show q < 2 ^ 31 by omega), if_pos hx]
      rw [e1, ea] at a
      have hJ : ∀ y, y ≠ 51 + 2 * q + 1 → (xw I (51 + 2 * q + 1) k (shNar (I 67 q) v)) y = I y := fun y hy => xw_row _ _ _ hy
      have hJk : ∀ j, (xw I (51 + 2 * q + 1) k (shNar (I 67 q) v)) (51 + 2 * q + 1) j = xup (I (51 + 2 * q + 1)) k (shNar (I 67 q) v) j := fun j => by rw [xw_is, xup_s]
      generalize xw I (51 + 2 * q + 1) k (shNar (I 67 q) v) = J at *
      have hmJ : msOK J sz := fun p hp => by rw [hJ 68 (by omega)]; exact hmz p hp
      have b := c_Model_cell l G (d := d) nn (by omega) J hc tc ln S (mOK_cls hM (fun y hy => hJ y (by omega))) sz hmJ (nI q) (nI k) v
      have e2 : rSheet (J 67) (nI q) = 0 := by rw [hJ 67 (by omega)]; exact ht
      have e3 : xin (nI k) 0 (J 68 q - 1) = true := by rw [hJ 68 (by omega), a3]; exact e.mpr hx
      rw [aCellM, mCellM, if_pos e2, if_pos e2, nI_cl (show q < 2 ^ 31 by omega), if_pos e3, if_pos e3, nI_cl (show k < 2 ^ 31 by omega), hJ 67 (by omega)] at b
      have hx2 : ∀ y, y ≠ 69 → (xw J 69 (40 * q + k) (shNar (I 67 q) v)) y = J y := fun y hy => xw_row _ _ _ hy
      refine ⟨_, _, _, a, b, hc, tc, ln, S, sz, n, RL_sh hRL (fun y h1 h2 h3 h4 => by rw [hx2 y h4]; exact hJ y (by omega)) (fun j hj => by rw [hx2 59 (by decide), hJ 59 (by omega)]) (fun p hp => ?_)⟩
      obtain ⟨b1, b2, b3, b4, b5⟩ := hS p hp
      refine ⟨?_, ?_, ?_, b4, fun j hj => ?_⟩
      · rw [hx2 _ (by omega), hx2 67 (by decide), hJ _ (by omega), hJ 67 (by omega)]; exact b1
      · rw [hx2 _ (by omega), hJ _ (by omega)]; exact b2
      · rw [hx2 68 (by decide), hJ 68 (by omega)]; exact b3
      · rw [hx2 _ (by omega)]
        by_cases hpq : p = q
        · subst hpq
          rw [hJk, xw_is, xup_s, hJ 69 (by omega)]
          by_cases hjk : j = k
          · subst hjk; rw [xup_s, xup_s]
          · rw [xup_n _ _ hjk, xup_n _ _ (by omega)]; exact b5 j hj
        · rw [hJ _ (by omega), xw_k _ _ _ (by omega), hJ 69 (by omega)]; exact b5 j hj
    · have e1 : mCell I (nI q) x v = I := by rw [mCell, if_pos hrs, nI_cl (show q < 2 ^ 31 by omega), if_neg hx]
      rw [e1] at a
      have b := c_Model_cell l G (d := d) nn (by omega) I hc tc ln S hM sz hmz (nI q) x v
      have e2 : mCellM I (nI q) x v = I := by rw [mCellM, if_pos ht, nI_cl (show q < 2 ^ 31 by omega), a3, if_neg (fun z => hx (e.mp z))]
      rw [e2, sh_cell hS] at b
      exact ⟨I, I, _, a, b, hr⟩
  · have hrs : ¬ rSheet (fun q => I (51 + 2 * q) 1) s = 0 := by rw [rSheet_c hs]; exact ht
    have e1 : mCell I s x v = I := by rw [mCell, if_neg hrs]
    rw [e1] at a
    have b := c_Model_cell l G (d := d) nn (by omega) I hc tc ln S hM sz hmz s x v
    have e2 : mCellM I s x v = I := by rw [mCellM, if_neg ht]
    rw [e2, sh_cell hS] at b
    exact ⟨I, I, _, a, b, hr⟩
theorem s_copy (l : Launch) (G : xG) {d : Nat} (nn : Nat) (hd : 42 ≤ d) {I : xI} (hr : RI I) (s i o j n1 : Int32) : ∃ J J' v, XM l G d y_X_copy b_X_copy 8 (some .int) 0 0 xK0 [.ref (xg G 0), .int s, .int i, .int o, .int j, .int n1] nn (xm G xYf I) (some (.int v)) nn (xm G xYf J) ∧ XM l G d y_Model_copy b_Model_copy 10 (some .int) 0 0 xK0 [.ref (xg G 59), .int s, .int i, .int o, .int j, .int n1] nn (xm G xYf J) (some (.int v)) nn (xm G xYf J') ∧ RI J' := by
  obtain ⟨hc, tc, ln, S, sz, n, hRL⟩ := id hr
  obtain ⟨hK, hM, hR, hS, hT, hI, hO, hO2, hW⟩ := id hRL
  have h5 := hM.1.2
  have hsz : sOK I sz := fun q hq => ⟨(hS q hq).2.1, (hS q hq).2.2.2.1⟩
  have hmz : msOK I sz := fun q hq => ⟨(hS q hq).2.2.1, (hS q hq).2.2.2.1⟩
  have a := c_X_copy l G (d := d) nn I (by omega) hc tc ln S hK sz hsz s i o j n1
  have hcp := sh_copy hS s i o j n1
  by_cases hok : okCopy I s i o j n1 = true
  · have hokM := hcp.2.mpr hok
    obtain ⟨q, hq, rfl⟩ := cTop (n := 3) (by decide) hokM.1
    obtain ⟨p, hp, rfl⟩ := cTop (n := 3) (by decide) hokM.2.1
    obtain ⟨a1, a2, a3, a4, a5⟩ := hS q (by omega)
    obtain ⟨b1, b2, b3, b4, b5⟩ := hS p (by omega)
    have hcond := hokM.2.2.2.2.2
    rw [nI_cl (show q < 2 ^ 31 by omega), nI_cl (show p < 2 ^ 31 by omega), a3, b3] at hcond
    obtain ⟨x, y, N, rfl, rfl, rfl, c1, c2⟩ := (cp_cond a4 b4 i j n1).mp hcond
    have e1 : mCopy I (nI q) (nI x) (nI p) (nI y) (nI N) = xup I (51 + 2 * p + 1) (va_cpy (I (51 + 2 * q + 1)) (I (51 + 2 * p + 1)) x y N) := by rw [mCopy, if_pos hok, nI_cl (show q < 2 ^ 31 by omega), nI_cl (show p < 2 ^ 31 by omega), nI_cl (show x < 2 ^ 31 by omega), nI_cl (show y < 2 ^ 31 by omega), nI_cl (show N < 2 ^ 31 by omega)]
    rw [e1] at a
    have hJ : ∀ z, z ≠ 51 + 2 * p + 1 → (xup I (51 + 2 * p + 1) (va_cpy (I (51 + 2 * q + 1)) (I (51 + 2 * p + 1)) x y N)) z = I z := fun z hz => xup_n _ _ hz
    have hJp : (xup I (51 + 2 * p + 1) (va_cpy (I (51 + 2 * q + 1)) (I (51 + 2 * p + 1)) x y N)) (51 + 2 * p + 1) = va_cpy (I (51 + 2 * q + 1)) (I (51 + 2 * p + 1)) x y N := xup_s _ _ _
    generalize xup I (51 + 2 * p + 1) (va_cpy (I (51 + 2 * q + 1)) (I (51 + 2 * p + 1)) x y N) = J at *
    have hmJ : msOK J sz := fun r hr => by rw [hJ 68 (by omega)]; exact hmz r hr
    have b := c_Model_copy l G (d := d) nn (by omega) J hc tc ln S (mOK_cls hM (fun z hz => hJ z (by omega))) sz hmJ (nI q) (nI x) (nI p) (nI y) (nI N)
    have e2 : okCopyM J (nI q) (nI x) (nI p) (nI y) (nI N) ↔ okCopyM I (nI q) (nI x) (nI p) (nI y) (nI N) := by unfold okCopyM; rw [hJ 67 (by omega), hJ 68 (by omega)]
    have e3 : aCopyM J (nI q) (nI x) (nI p) (nI y) (nI N) = aCopyM I (nI q) (nI x) (nI p) (nI y) (nI N) := by unfold aCopyM; rw [hJ 67 (by omega), hJ 68 (by omega)]
    rw [e3, hcp.1, mCopyM, if_pos (e2.mpr hokM), nI_cl (show q < 2 ^ 31 by omega), nI_cl (show p < 2 ^ 31 by omega), nI_cl (show x < 2 ^ 31 by omega), nI_cl (show y < 2 ^ 31 by omega), nI_cl (show N < 2 ^ 31 by omega), hJ 69 (by omega)] at b
    have hx2 : ∀ z, z ≠ 69 → (xup J 69 (cpA (40 * q + x) (40 * p + y) N (I 69))) z = J z := fun z hz => xup_n _ _ hz
    refine ⟨_, _, _, a, b, hc, tc, ln, S, sz, n, RL_sh hRL (fun z h1 h2 h3 h4 => by rw [hx2 z h4]; exact hJ z (by omega)) (fun k hk => by rw [hx2 59 (by decide), hJ 59 (by omega)]) (fun r hr => ?_)⟩
    obtain ⟨d1, d2, d3, d4, d5⟩ := hS r hr
    refine ⟨?_, ?_, ?_, d4, fun k hk => ?_⟩
    · rw [hx2 _ (by omega), hx2 67 (by decide), hJ _ (by omega), hJ 67 (by omega)]; exact d1
    · rw [hx2 _ (by omega), hJ _ (by omega)]; exact d2
    · rw [hx2 68 (by decide), hJ 68 (by omega)]; exact d3
    · rw [hx2 _ (by omega), xup_s]
      by_cases hpr : r = p
      · subst hpr
        rw [hJp]
        by_cases hin : y ≤ k ∧ k < y + N
        · rw [pk_cpy_in hin.1 hin.2, cpA, if_pos (show 40 * r + y ≤ 40 * r + k ∧ 40 * r + k < 40 * r + y + N by omega), a5 _ (by omega)]
          congr 1
          omega
        · rw [pk_cpy_out (by omega), cpA, if_neg (by omega)]; exact d5 k hk
      · rw [hJ _ (by omega), cpA, if_neg (by omega)]; exact d5 k hk
  · have e1 : mCopy I s i o j n1 = I := by rw [mCopy, if_neg hok]
    rw [e1] at a
    have b := c_Model_copy l G (d := d) nn (by omega) I hc tc ln S hM sz hmz s i o j n1
    rw [mCopyM, if_neg (fun z => hok (hcp.2.mp z)), hcp.1] at b
    exact ⟨I, I, _, a, b, hr⟩
theorem s_film (l : Launch) (G : xG) {d : Nat} (nn : Nat) (hd : 42 ≤ d) {I : xI} (hr : RI I) (s h n1 sp sec : Int32) : ∃ J J' v, XM l G d y_X_film b_X_film 8 (some .int) 0 0 xK0 [.ref (xg G 0), .int s, .int h, .int n1, .int sp, .int sec] nn (xm G xYf I) (some (.int v)) nn (xm G xYf J) ∧ XM l G d y_Model_film b_Model_film 7 (some .int) 0 0 xK0 [.ref (xg G 59), .int s, .int h, .int n1, .int sp, .int sec] nn (xm G xYf J) (some (.int v)) nn (xm G xYf J') ∧ RI J' := by
  obtain ⟨hc, tc, ln, S, sz, n, hRL⟩ := id hr
  obtain ⟨hK, hM, hR, hS, hT, hI, hO, hO2, hW⟩ := id hRL
  have h5 := hM.1.2
  have hsz : sOK I sz := fun q hq => ⟨(hS q hq).2.1, (hS q hq).2.2.2.1⟩
  have hmz : msOK I sz := fun q hq => ⟨(hS q hq).2.2.1, (hS q hq).2.2.2.1⟩
  have a := c_X_film l G (d := d) nn I (by omega) hc tc ln S hK s h n1 sp sec
  by_cases hok : okFilm hc s h n1 sp sec = true
  · have hok2 := hok
    rw [okFilm] at hok2
    simp only [Bool.and_eq_true] at hok2
    obtain ⟨⟨⟨⟨o1, o2⟩, o3⟩, o4⟩, o5⟩ := hok2
    obtain ⟨q, hq, rfl⟩ := cTop (n := 3) (by decide) o1
    obtain ⟨i, hi, rfl⟩ := cHead h5 o2
    obtain ⟨z, hz, rfl⟩ := cTop (n := 40) (by decide) o5
    have hbd : xbd (nI z) 0 40 = nI z := by
      have z0 := (nI_nn (x := z) (by omega)).1
      have z1 : ¬ (40 : Int32) < nI z := fun y => absurd ((nI_ltI (a := 40) (by decide) (by omega)).mp y) (by omega)
      unfold xbd
      grind
    rw [mFilm, if_pos hok, nI_cl (show q < 2 ^ 31 by omega), nI_cl (show i < 2 ^ 31 by omega), nI_cl (show z < 2 ^ 31 by omega), hbd, hR i hi] at a
    generalize hJ : xup (xw (xw I (51 + 2 * q) 1 2) (51 + 2 * q) 2 (nI z)) (51 + 2 * q + 1) (flR (S ln) (sp - sp / 10 * 10) (hSpin (S ln) n1 (sp / 10) (hStd (mRow I i))) (zrow 40 (I (51 + 2 * q + 1))) z) = J at a
    have hJa : ∀ x, x ≠ 51 + 2 * q → x ≠ 51 + 2 * q + 1 → J x = I x := fun x h1 h2 => by rw [← hJ, xup_n _ _ h2, xw_row _ _ _ h1, xw_row _ _ _ h1]
    have hJ1 : J (51 + 2 * q) 1 = 2 := by rw [← hJ, xup_n _ _ (by omega), xw_k _ _ _ (by decide), xw_s]
    have hJ2 : J (51 + 2 * q) 2 = nI z := by rw [← hJ, xup_n _ _ (by omega), xw_s]
    have hJ3 : ∀ k, k < 40 → J (51 + 2 * q + 1) k = if k < z then hGo (S ln) (sp - sp / 10 * 10) 1 (k + 1) (hSpin (S ln) n1 (sp / 10) (hStd (mRow I i))) 6 else 0 := fun k hk => by
      rw [← hJ, xup_s, flR]
      by_cases hkz : k < z
      · rw [if_pos hkz, if_pos hkz]
      · rw [if_neg hkz, if_neg hkz, zrow, if_pos hk]
    have hmr : mRow J i = mRow I i := mRow_c (hJa _ (by omega) (by omega)) (hJa _ (by omega) (by omega)) (hJa _ (by omega) (by omega))
    have b := c_Model_film l G (d := d) nn (by omega) J hc tc ln S (mOK_cls hM (fun x hx => hJa x (by omega) (by omega))) (nI q) (nI i) n1 sp (nI z)
    rw [if_pos hok, nI_cl (show q < 2 ^ 31 by omega), nI_cl (show i < 2 ^ 31 by omega), nI_cl (show z < 2 ^ 31 by omega), hmr] at b
    simp only [tTry_0] at b
    refine ⟨J, _, _, a, b, hc, tc, ln, S, _, n, RL_sh hRL (fun x h1 h2 h3 h4 => ?_) (fun k hk => ?_) (shRel_1 hS (show q < 4 by omega) (fun x h1 h2 h3 h4 => ?_) (fun p hp hne => ?_) (fun p hp hne => ?_) (fun x hx => ?_) hz ?_ ?_ ?_ (fun k hk => ?_))⟩
    · rw [xup_n _ _ (by omega), xup_n _ _ h4, xw_row _ _ _ h3, xw_row _ _ _ h2]; exact hJa x (by omega) (by omega)
    · rw [xup_s, sc_o _ _ _ (by omega), hJa 59 (by omega) (by omega)]
    · rw [xup_n _ _ (by omega), xup_n _ _ (by omega), xw_row _ _ _ (by omega), xw_row _ _ _ (by omega)]; exact hJa x h3 h4
    · rw [xup_n _ _ (by omega), xup_n _ _ (by omega), xw_row _ _ _ (by omega), xw_k _ _ _ hne, hJa 67 (by omega) (by omega)]
    · rw [xup_n _ _ (by omega), xup_n _ _ (by omega), xw_k _ _ _ hne, xw_row _ _ _ (by omega), hJa 68 (by omega) (by omega)]
    · rw [xup_n _ _ (by omega), xup_s, flM, if_neg (by omega), hJa 69 (by omega) (by omega)]
    · rw [xup_n _ _ (by omega), xup_n _ _ (by omega), xw_row _ _ _ (by omega), xw_row _ _ _ (by omega), hJ1, xup_n _ _ (by omega), xup_n _ _ (by omega), xw_row _ _ _ (by omega), xw_s]
    · rw [xup_n _ _ (by omega), xup_n _ _ (by omega), xw_row _ _ _ (by omega), xw_row _ _ _ (by omega), hJ2]
    · rw [xup_n _ _ (by omega), xup_n _ _ (by omega), xw_s]
    · rw [xup_n _ _ (by omega), xup_n _ _ (by omega), xw_row _ _ _ (by omega), xw_row _ _ _ (by omega), hJ3 k hk, xup_n _ _ (by omega), xup_s, flM, if_pos (show 40 * q ≤ 40 * q + k ∧ 40 * q + k < 40 * q + 40 by omega), Nat.add_sub_cancel_left]
  · rw [mFilm, if_neg hok] at a
    have b := c_Model_film l G (d := d) nn (by omega) I hc tc ln S hM s h n1 sp sec
    rw [if_neg hok] at b
    exact ⟨I, I, _, a, b, hr⟩
