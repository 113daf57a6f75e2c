theorem s_feed (l : Launch) (G : xG) {d : Nat} (nn : Nat) (hd : 42 ≤ d) {I : xI} (hr : RI I) (n1 a1 b1 c1 d1 e1 : Int32) : ∃ J J' v, XM l G d y_X_feed b_X_feed 8 (some .int) 0 0 xK0 [.ref (xg G 0), .int n1, .int a1, .int b1, .int c1, .int d1, .int e1] nn (xm G xYf I) (some (.int v)) nn (xm G xYf J) ∧ XM l G d y_Model_feed b_Model_feed 8 (some .int) 0 0 xK0 [.ref (xg G 59), .int n1, .int a1, .int b1, .int c1, .int d1, .int e1] nn (xm G xYf J) (some (.int v)) nn (xm G xYf J') ∧ RI J' := by
  obtain ⟨hc, tc, ln, S, sz, n, hRL⟩ := id hr
  obtain ⟨hK, hM, hR, hS, hT, hI, hO, hO2, hW⟩ := id hRL
  have h5 := hM.1.2
  have hsz : sOK I sz := fun q hq => ⟨(hS q hq).2.1, (hS q hq).2.2.2.1⟩
  have hmz : msOK I sz := fun q hq => ⟨(hS q hq).2.2.1, (hS q hq).2.2.2.1⟩
  have a := k_X_feed l G (d := d) nn (by omega) I n1 a1 b1 c1 d1 e1
  obtain ⟨t1, t2, t3, t4, t5⟩ := id hT
  by_cases hok : okFeed n1 a1 b1 c1 d1 e1 = true
  · obtain ⟨⟨N, hN, rfl⟩, hb⟩ := feed_b hok
    have hle : I 11 2 + nI N ≤ 160 ↔ n + N ≤ 160 := by rw [t1, nI_add]; exact nI_leI (b := 160) (by omega) (by decide)
    by_cases hf : n + N ≤ 160
    · have w1 := iFd_w a1 b1 c1 d1 e1 N 0 I n t1 hf
      have e1' : mFeed I (nI N) a1 b1 c1 d1 e1 = iFd a1 b1 c1 d1 e1 N 0 I := by rw [mFeed, if_pos hok, if_pos (hle.mpr hf), nI_cl (by omega)]
      have e2' : aFeed I (nI N) a1 b1 c1 d1 e1 = nI (n + N) := by rw [aFeed, if_pos hok, if_pos (hle.mpr hf), nI_cl (by omega)]; exact w1.2.1
      rw [e1', e2'] at a
      generalize iFd a1 b1 c1 d1 e1 N 0 I = J at *
      have j5 : J 59 5 = nI n := by rw [w1.1 59 (by decide) (by decide)]; exact t3
      have b := c_Model_feed l G (d := d) nn (by omega) J hc tc ln S (mOK_cls hM (fun x hx => w1.1 x (by omega) (by omega))) n j5 t2 (nI N) a1 b1 c1 d1 e1
      have w2 := mFd_w a1 b1 c1 d1 e1 N 0 J n j5 hf
      have hle2 : J 59 5 + nI N ≤ 160 := by rw [j5, nI_add]; exact (nI_leI (b := 160) (by omega) (by decide)).mpr hf
      rw [aFeedM, mFeedM, if_pos hok, if_pos hok, if_pos hle2, if_pos hle2, nI_cl (show N < 2 ^ 31 by omega), w2.2.1] at b
      refine ⟨J, _, _, a, b, hc, tc, ln, S, sz, n + N, RL_tp hRL (fun x h1 h2 h3 h4 => by rw [w2.1 x h3 h4, w1.1 x h1 h2]) (fun k h1 h2 => by rw [w2.2.2.1 k h2, w1.1 59 (by decide) (by decide)]) ⟨by rw [w2.1 11 (by decide) (by decide)]; exact w1.2.1, hf, w2.2.1, ?_, fun j hj => ?_⟩⟩
      · rw [w2.1 12 (by decide) (by decide), w1.2.2, w2.2.2.2, w1.1 63 (by decide) (by decide)]; exact fdW_c N 0 n _ _ t4
      · rw [w2.1 12 (by decide) (by decide), w1.2.2]
        exact fdW_nn hb N 0 n (I 12) t5 j hj
    · have e1' : mFeed I (nI N) a1 b1 c1 d1 e1 = I := by rw [mFeed, if_pos hok, if_neg (fun z => hf (hle.mp z))]
      have e2' : aFeed I (nI N) a1 b1 c1 d1 e1 = -4 := by rw [aFeed, if_pos hok, if_neg (fun z => hf (hle.mp z))]
      rw [e1', e2'] at a
      have b := c_Model_feed l G (d := d) nn (by omega) I hc tc ln S hM n t3 t2 (nI N) a1 b1 c1 d1 e1
      have hle2 : ¬ I 59 5 + nI N ≤ 160 := by rw [t3, nI_add]; exact fun z => hf ((nI_leI (b := 160) (by omega) (by decide)).mp z)
      rw [aFeedM, mFeedM, if_pos hok, if_pos hok, if_neg hle2, if_neg hle2] at b
      exact ⟨I, I, _, a, b, hr⟩
  · have e1' : mFeed I n1 a1 b1 c1 d1 e1 = I := by rw [mFeed, if_neg hok]
    have e2' : aFeed I n1 a1 b1 c1 d1 e1 = -2 := by rw [aFeed, if_neg hok]
    rw [e1', e2'] at a
    have b := c_Model_feed l G (d := d) nn (by omega) I hc tc ln S hM n t3 t2 n1 a1 b1 c1 d1 e1
    rw [aFeedM, mFeedM, if_neg hok, if_neg hok] at b
    exact ⟨I, I, _, a, b, hr⟩
/-- class from one memory, model from another -/
def mg (A B : xI) : xI := fun a => if a < 59 then A a else B a
theorem mg_l {A B : xI} {a : Nat} (h : a < 59) : mg A B a = A a := if_pos h
theorem mg_r {A B : xI} {a : Nat} (h : 59 ≤ a) : mg A B a = B a := if_neg (by omega)
theorem mg_i (A : xI) : mg A A = A := by
  funext a
  unfold mg
  split <;> rfl
theorem mHead_lt {I : xI} {hc : Nat} {k m : Int32} (a : Nat) : (∀ J : xI, J 0 = I 0 → J (17 + 2 * hc) = I (17 + 2 * hc) → J a = I a → mHead J hc k m a = mHead I hc k m a) := by
  intro J h0 h17 ha
  unfold mHead
  split
  · split
    · exact ha
    · simp only [xw_is, xup_ap]
      rw [h17, h0, ha]
  · exact ha
theorem mHead_mg {A B : xI} {h : Nat} (h5 : h ≤ 5) (k m : Int32) : mHead (mg A B) h k m = mg (mHead A h k m) B := by
  funext a
  by_cases ha : a < 59
  · rw [mg_l ha]
    exact mHead_lt (I := A) a _ (mg_l (by decide)) (mg_l (by omega)) (mg_l ha)
  · rw [mg_r (show 59 ≤ a by omega), mHead_ge h5 a (by omega), mg_r (show 59 ≤ a by omega)]
theorem mHeadM_mg (A B : xI) (h : Nat) (k m : Int32) : mHeadM (mg A B) h k m = mg A (mHeadM B h k m) := by
  funext a
  by_cases ha : a < 59
  · rw [mHead_o (by omega) (by omega) (by omega) (by omega), mg_l ha, mg_l ha]
  · rw [mg_r (show 59 ≤ a by omega)]
    unfold mHeadM
    split
    · split
      · exact mg_r (by omega)
      · have e : ∀ x, 59 ≤ x → mg A B x = B x := fun x hx => mg_r hx
        simp only [xw_is, xup_ap]
        rw [e a (by omega), e 59 (by decide), e 60 (by decide), e 61 (by decide), e 62 (by decide)]
    · exact mg_r (by omega)
theorem hmM_mg (cl : Nat → Int32) (z : Nat) (p : Int32) (A : xI) : ∀ (r k : Nat) (B : xI) (h : Nat), hmM cl z p r k (mg A B) h = mg A (hmM cl z p r k B h)
  | 0, _, _, _ => rfl
  | r + 1, k, B, h => by
    rw [hmM, hmM]
    split
    · rw [mHeadM_mg, hmM_mg cl z p A r]
    · rfl
theorem hbM_ge (s : Nat) (p : Int32) : ∀ (r k : Nat) (A : xI) (h : Nat), h ≤ 5 → ∀ a, 59 ≤ a → hbM s p r k A h a = A a
  | 0, _, _, _, _, _, _ => rfl
  | r + 1, k, A, h, h5, a, ha => by
    rw [hbM]
    split
    · rw [hbM_ge s p r (k + 1) _ _ (by unfold hbS; split; split; exact h5; omega; exact h5) a ha, mHead_ge h5 a ha]
    · rfl
theorem hb_cond {f : Nat → Int32} {z : Nat} (hz : z ≤ 40) (h : f 2 = nI z) (p : Int32) {k : Nat} (hk : k ≤ 5) : shRow f p (2 * nI k + 2) = true ↔ hmOK p k z := by
  have e2 : 2 * nI k + 2 = nI (2 * k + 2) := by rw [show 2 * nI k = nI (2 * k) from nI_mul 2 k]; exact nI_add (2 * k) 2
  rw [e2, shRow_n hz h]
  constructor
  · rintro ⟨x, N, rfl, e, hx⟩
    have : 2 * k + 2 = N := (nI_eq (by omega) (by omega)).mp e
    subst this
    exact ⟨(nI_nn (by omega)).2.2, by rw [nI_cl (by omega)]; omega⟩
  · rintro ⟨h0, hx⟩
    obtain ⟨x, hx2, rfl⟩ := nI_of (x := p) (Int32.not_lt.mpr h0)
    rw [nI_cl hx2] at hx
    exact ⟨x, 2 * k + 2, rfl, rfl, by omega⟩
theorem hb_sim {tc ln : Nat} {S : Nat → xSay} {sz : Nat → Nat} {n q : Nat} (hq : q < 4) (p : Int32) (g : Nat → Int32) : ∀ (r k : Nat) (A B : xI) (h : Nat) (c : Int32), RL (mg A B) h tc ln S sz n → k + r ≤ 5 → B 69 = g → hbA (51 + 2 * q) p r k A h c = hmA (fun j => g (40 * q + j)) (sz q) p r k h c ∧ ∃ h', RL (mg (hbM (51 + 2 * q) p r k A h) (hmM (fun j => g (40 * q + j)) (sz q) p r k B h)) h' tc ln S sz n
  | 0, k, A, B, h, c, hRL, _, _ => ⟨rfl, h, hRL⟩
  | r + 1, k, A, B, h, c, hRL, hk, hg => by
    have hS := hRL.2.2.2.1
    have h5 := hRL.2.1.1.2
    obtain ⟨a1, a2, a3, a4, a5⟩ := hS q hq
    have s2 : A (51 + 2 * q) 2 = nI (sz q) := by rw [mg_l (by omega)] at a2; exact a2
    have hc := hb_cond (f := A (51 + 2 * q)) a4 s2 p (k := k) (by omega)
    rw [hbA, hbM, hmA, hmM]
    by_cases hok : hmOK p k (sz q)
    · rw [if_pos (hc.mpr hok), if_pos (hc.mpr hok), if_pos hok, if_pos hok]
      obtain ⟨x, hx, rfl⟩ := nI_of (x := p) (Int32.not_lt.mpr hok.1)
      have hxk := hok.2
      rw [nI_cl hx] at hxk ⊢
      have ev : ∀ j, j < sz q → shGet A (51 + 2 * q) (nI j) = g (40 * q + j) := fun j hj => shGet_at s2 hj a4 (by
        have := a5 j (by omega)
        rw [mg_l (by omega), mg_r (by decide), hg] at this
        exact this)
      have e1 : nI x + 2 * nI k = nI (x + 2 * k) := by rw [show 2 * nI k = nI (2 * k) from nI_mul 2 k, nI_add]
      have e2 : nI (x + 2 * k) + 1 = nI (x + 2 * k + 1) := nI_1 _
      rw [e1, e2, ev _ (by omega), ev _ (by omega)]
      have hRL' := head_RL hRL (g (40 * q + (x + 2 * k))) (g (40 * q + (x + 2 * k + 1)))
      rw [mHead_mg h5, mHeadM_mg] at hRL'
      exact hb_sim hq (nI x) g r (k + 1) _ _ _ _ hRL' (by omega) (by rw [mHead_o (by decide) (by decide) (by decide) (by decide)]; exact hg)
    · rw [if_neg (fun z => hok (hc.mp z)), if_neg (fun z => hok (hc.mp z)), if_neg hok, if_neg hok]
      exact ⟨rfl, h, hRL⟩
theorem s_headsBy (l : Launch) (G : xG) {d : Nat} (nn : Nat) (hd : 42 ≤ d) {I : xI} (hr : RI I) (s sort p n1 : Int32) : ∃ J J' v, XM l G d y_X_headsBy b_X_headsBy 8 (some .int) 0 0 xK0 [.ref (xg G 0), .int s, .int sort, .int p, .int n1] nn (xm G xYf I) (some (.int v)) nn (xm G xYf J) ∧ XM l G d y_Model_headsBy b_Model_headsBy 9 (some .int) 0 0 xK0 [.ref (xg G 59), .int s, .int sort, .int p, .int n1] nn (xm G xYf J) (some (.int v)) nn (xm G xYf J') ∧ RI J' := by
  obtain ⟨hc, tc, ln, S, sz, n, hRL⟩ := id hr
  obtain ⟨hK, hM, hR, hS, hT, hI, hO, hO2, hW⟩ := id hRL
  have h5 := hM.1.2
  have hsz : sOK I sz := fun q hq => ⟨(hS q hq).2.1, (hS q hq).2.2.2.1⟩
  have hmz : msOK I sz := fun q hq => ⟨(hS q hq).2.2.1, (hS q hq).2.2.2.1⟩
  have a := c_X_headsBy l G (d := d) nn I (by omega) hc tc ln S hK s sort p n1
  by_cases h1 : xin s 0 3 = true ∧ xin sort 0 2 = true ∧ xin n1 0 5 = true
  · obtain ⟨q, hq, rfl⟩ := cTop (n := 3) (by decide) h1.1
    obtain ⟨N, hN, rfl⟩ := cTop (n := 5) (by decide) h1.2.2
    obtain ⟨a1, a2, a3, a4, a5⟩ := hS q (by omega)
    have hI0 : RL (mg I I) hc tc ln S sz n := by rw [mg_i]; exact hRL
    have hsim := hb_sim (q := q) (by omega) p (I 69) N 0 I I hc 0 hI0 (by omega) rfl
    by_cases h2 : I 67 q = -1
    · have e1 : mHeadsBy hc I (nI q) sort p (nI N) = I := by rw [mHeadsBy, if_pos h1, nI_cl (show q < 2 ^ 31 by omega), a1, if_pos h2]
      have e2 : aHeadsBy hc I (nI q) sort p (nI N) = -11 := by rw [aHeadsBy, if_pos h1, nI_cl (show q < 2 ^ 31 by omega), a1, if_pos h2]
      rw [e1, e2] at a
      have b := c_Model_headsBy l G (d := d) nn (by omega) I hc tc ln S hM sz hmz (nI q) sort p (nI N)
      rw [aHeadsByM, mHeadsByM, if_pos h1, if_pos h1, nI_cl (show q < 2 ^ 31 by omega), if_pos h2, if_pos h2] at b
      exact ⟨I, I, _, a, b, hr⟩
    · by_cases h3 : I 67 q = sort
      · have e1 : mHeadsBy hc I (nI q) sort p (nI N) = hbM (51 + 2 * q) p N 0 I hc := by rw [mHeadsBy, if_pos h1, nI_cl (show q < 2 ^ 31 by omega), a1, if_neg h2, if_pos h3, nI_cl (show N < 2 ^ 31 by omega)]
        have e2 : aHeadsBy hc I (nI q) sort p (nI N) = hbA (51 + 2 * q) p N 0 I hc 0 := by rw [aHeadsBy, if_pos h1, nI_cl (show q < 2 ^ 31 by omega), a1, if_neg h2, if_pos h3, nI_cl (show N < 2 ^ 31 by omega)]
        rw [e1, e2, hsim.1] at a
        obtain ⟨h', hRL'⟩ := hsim.2
        have hge := fun x hx => hbM_ge (51 + 2 * q) p N 0 I hc h5 x hx
        generalize hJ : hbM (51 + 2 * q) p N 0 I hc = J at *
        have hmJ : msOK J sz := fun r hr => by rw [hge 68 (by decide)]; exact hmz r hr
        have b := c_Model_headsBy l G (d := d) nn (by omega) J hc tc ln S (mOK_cls hM hge) sz hmJ (nI q) sort p (nI N)
        rw [aHeadsByM, mHeadsByM, if_pos h1, if_pos h1, nI_cl (show q < 2 ^ 31 by omega), hge 67 (by decide), hge 69 (by decide), if_neg h2, if_neg h2, if_pos h3, if_pos h3, nI_cl (show N < 2 ^ 31 by omega)] at b
        have eJ : J = mg J I := by
          funext x
          by_cases hx : x < 59
          · rw [mg_l hx]
          · rw [mg_r (by omega)]; exact hge x (by omega)
        have eh : hmM (fun j => I 69 (40 * q + j)) (sz q) p N 0 J hc = mg J (hmM (fun j => I 69 (40 * q + j)) (sz q) p N 0 I hc) := by
          conv => lhs; rw [eJ]
          exact hmM_mg _ _ _ _ _ _ _ _
        rw [eh] at b
        exact ⟨J, _, _, a, b, h', tc, ln, S, sz, n, hRL'⟩
      · have e1 : mHeadsBy hc I (nI q) sort p (nI N) = I := by rw [mHeadsBy, if_pos h1, nI_cl (show q < 2 ^ 31 by omega), a1, if_neg h2, if_neg h3]
        have e2 : aHeadsBy hc I (nI q) sort p (nI N) = -13 := by rw [aHeadsBy, if_pos h1, nI_cl (show q < 2 ^ 31 by omega), a1, if_neg h2, if_neg h3]
        rw [e1, e2] at a
        have b := c_Model_headsBy l G (d := d) nn (by omega) I hc tc ln S hM sz hmz (nI q) sort p (nI N)
        rw [aHeadsByM, mHeadsByM, if_pos h1, if_pos h1, nI_cl (show q < 2 ^ 31 by omega), if_neg h2, if_neg h2, if_neg h3, if_neg h3] at b
        exact ⟨I, I, _, a, b, hr⟩
  · have e1 : mHeadsBy hc I s sort p n1 = I := by rw [mHeadsBy, if_neg h1]
    have e2 : aHeadsBy hc I s sort p n1 = -2 := by rw [aHeadsBy, if_neg h1]
    rw [e1, e2] at a
    have b := c_Model_headsBy l G (d := d) nn (by omega) I hc tc ln S hM sz hmz s sort p n1
    rw [aHeadsByM, mHeadsByM, if_neg h1, if_neg h1] at b
    exact ⟨I, I, _, a, b, hr⟩
