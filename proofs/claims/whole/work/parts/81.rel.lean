def iRow (I : xI) (i : Nat) : Nat → Int32 := fun j => if j = 0 then I 60 i else if j = 1 then I 61 i else if j = 2 then I 66 (6 * i) else if j = 3 then I 66 (6 * i + 1) else if j = 4 then I 66 (6 * i + 2) else if j = 5 then I 66 (6 * i + 3) else if j = 6 then I 66 (6 * i + 4) else if j = 7 then I 66 (6 * i + 5) else 0
def imRel (I : xI) (hc tc : Nat) : Prop := (I 0 13 = -1 ∧ I 59 10 = 0) ∨ ∃ ic il, I 0 13 = nI ic ∧ I 0 14 = nI il ∧ I 59 10 = 1 ∧ I 59 11 = nI ic ∧ I 59 12 = nI il ∧ ic ≤ hc ∧ il < tc ∧ ∀ i, i < ic → I (18 + 2 * i) = iRow I i
def tpRel (I : xI) (n : Nat) : Prop := I 11 2 = nI n ∧ n ≤ 160 ∧ I 59 5 = nI n ∧ (∀ j, j < n → I 12 j = I 63 j) ∧ ∀ j, j < n → ¬ I 12 j < 0
/-- class and model alike -/
def RL (I : xI) (hc tc ln : Nat) (S : Nat → xSay) (sz : Nat → Nat) (n : Nat) : Prop := cOK I hc tc ln S ∧ mOK I hc tc ln S ∧ (∀ i, i < hc → I (17 + 2 * i) = mRow I i) ∧ shRel I sz ∧ tpRel I n ∧ imRel I hc tc ∧ (∀ i, i < 5 → hOK (I (18 + 2 * i))) ∧ (∀ i, i < 5 → (I 66 (6 * i + 5) = 0 ∨ I 66 (6 * i + 5) = 1) ∧ (0 ≤ I 66 (6 * i + 2) ∧ I 66 (6 * i + 2) ≤ 99) ∧ 0 ≤ I 62 (6 * i + 2) ∧ I 62 (6 * i + 2) ≤ 99) ∧ ∀ j, j < 96 → I 71 j = zWd j
def RI (I : xI) : Prop := ∃ hc tc ln S sz n, RL I hc tc ln S sz n
theorem RI_ite {c : Prop} [Decidable c] {A B : xI} (hA : RI A) (hB : RI B) : RI (if c then A else B) := by
  split
  · exact hA
  · exact hB
theorem xTx_c {Y : xY} {I J : xI} {t : Nat} {S : xSay} (h : xTx Y I t S) (h0 : J t = I t) (h1 : J (t + 1) = I (t + 1)) (h2 : J (t + 2) = I (t + 2)) : xTx Y J t S := by
  unfold xTx at h ⊢
  rw [h0, h1, h2]
  exact h
theorem cOK_of {I J : xI} {hc tc ln hc' ln' : Nat} {S : Nat → xSay} (h : cOK I hc tc ln S) (h10 : J 0 10 = nI hc') (hc5 : hc' ≤ 5) (h11 : J 0 11 = I 0 11) (h12 : J 0 12 = nI ln') (hl : ln' < tc) (ht : ∀ a, 27 ≤ a → a < 51 → J a = I a) (hh : ∀ i, i < 5 → hOK (J (17 + 2 * i))) : cOK J hc' tc ln' S := by
  obtain ⟨⟨a1, a2⟩, ⟨b1, b2⟩, ⟨c1, c2⟩, d, e⟩ := h
  exact ⟨⟨h10, hc5⟩, ⟨h11.trans b1, b2⟩, ⟨h12, hl⟩, fun j hj => xTx_c (d j hj) (ht _ (by omega) (by omega)) (ht _ (by omega) (by omega)) (ht _ (by omega) (by omega)), hh⟩
theorem mOK_of {I J : xI} {hc tc ln hc' ln' : Nat} {S : Nat → xSay} (h : mOK I hc tc ln S) (h0 : J 59 0 = nI hc') (hc5 : hc' ≤ 5) (h8 : J 59 8 = I 59 8) (h9 : J 59 9 = nI ln') (hl : ln' < tc) (h64 : J 64 = I 64) (h65 : J 65 = I 65) (hr : ∀ i, i < 5 → (¬ J 61 i < 0 ∧ J 61 i ≤ 9) ∧ (J 62 (6 * i + 5) = 0 ∨ J 62 (6 * i + 5) = 1)) : mOK J hc' tc ln' S := by
  obtain ⟨⟨a1, a2⟩, ⟨b1, b2⟩, ⟨c1, c2⟩, d, e⟩ := h
  exact ⟨⟨h0, hc5⟩, ⟨h8.trans b1, b2⟩, ⟨h9, hl⟩, fun j hj => mTx_kept (d j hj) h64 h65, hr⟩
theorem mRow_c {I J : xI} {i : Nat} (h0 : J 60 = I 60) (h1 : J 61 = I 61) (h2 : J 62 = I 62) : mRow J i = mRow I i := by
  unfold mRow
  rw [h0, h1, h2]
theorem iRow_c {I J : xI} {i : Nat} (h0 : J 60 = I 60) (h1 : J 61 = I 61) (h2 : J 66 = I 66) : iRow J i = iRow I i := by
  unfold iRow
  rw [h0, h1, h2]
theorem imRel_c {I J : xI} {hc tc hc' : Nat} (h : imRel I hc tc) (hh : hc ≤ hc') (a13 : J 0 13 = I 0 13) (a14 : J 0 14 = I 0 14) (m : ∀ k, 10 ≤ k → k < 13 → J 59 k = I 59 k) (hr : ∀ i, i < hc → J (18 + 2 * i) = I (18 + 2 * i)) (hi : ∀ i, i < hc → iRow J i = iRow I i) : imRel J hc' tc := by
  rcases h with ⟨h1, h2⟩ | ⟨ic, il, h1, h2, h3, h4, h5, h6, h7, h8⟩
  · exact Or.inl ⟨a13.trans h1, (m 10 (by decide) (by decide)).trans h2⟩
  · exact Or.inr ⟨ic, il, a13.trans h1, a14.trans h2, (m 10 (by decide) (by decide)).trans h3, (m 11 (by decide) (by decide)).trans h4, (m 12 (by decide) (by decide)).trans h5, by omega, h7, fun i hi2 => by rw [hr i (by omega), hi i (by omega)]; exact h8 i hi2⟩
theorem shRel_c {I J : xI} {sz : Nat → Nat} (h : shRel I sz) (ha : ∀ a, 51 ≤ a → a < 59 → J a = I a) (h67 : J 67 = I 67) (h68 : J 68 = I 68) (h69 : J 69 = I 69) : shRel J sz := by
  intro q hq
  rw [ha _ (by omega) (by omega), ha (51 + 2 * q + 1) (by omega) (by omega), h67, h68, h69]
  exact h q hq
theorem RL_59 {I J : xI} {hc tc ln : Nat} {S : Nat → xSay} {sz : Nat → Nat} {n : Nat} (h : RL I hc tc ln S sz n) (ha : ∀ a, a ≠ 59 → J a = I a) (hk : ∀ k, k < 13 → J 59 k = I 59 k) : RL J hc tc ln S sz n := by
  obtain ⟨hK, hM, hR, hS, hT, hI, hO, hO2, hW⟩ := h
  refine ⟨cOK_of hK (by rw [ha 0 (by decide)]; exact hK.1.1) hK.1.2 (by rw [ha 0 (by decide)]) (by rw [ha 0 (by decide)]; exact hK.2.2.1.1) hK.2.2.1.2 (fun a h1 h2 => ha a (by omega)) (fun i hi => by rw [ha _ (by omega)]; exact hK.2.2.2.2 i hi), mOK_of hM ((hk 0 (by decide)).trans hM.1.1) hM.1.2 (hk 8 (by decide)) ((hk 9 (by decide)).trans hM.2.2.1.1) hM.2.2.1.2 (ha _ (by decide)) (ha _ (by decide)) (fun i hi => by rw [ha 61 (by decide), ha 62 (by decide)]; exact hM.2.2.2.2 i hi), fun i hi => ?_, shRel_c hS (fun a h1 h2 => ha a (by omega)) (ha _ (by decide)) (ha _ (by decide)) (ha _ (by decide)), ?_, imRel_c hI (Nat.le_refl _) (by rw [ha 0 (by decide)]) (by rw [ha 0 (by decide)]) (fun k h1 h2 => hk k h2) (fun i hi => by have := hM.1.2; exact ha _ (by omega)) (fun i hi => iRow_c (ha _ (by decide)) (ha _ (by decide)) (ha _ (by decide))), fun i hi => by rw [ha _ (by omega)]; exact hO i hi, fun i hi => by rw [ha 66 (by decide), ha 62 (by decide)]; exact hO2 i hi, fun j hj => by rw [ha 71 (by decide)]; exact hW j hj⟩
  · have := hM.1.2
    rw [ha _ (by omega), mRow_c (ha _ (by decide)) (ha _ (by decide)) (ha _ (by decide))]
    exact hR i hi
  · obtain ⟨t1, t2, t3, t4, t5⟩ := hT
    refine ⟨by rw [ha 11 (by decide)]; exact t1, t2, (hk 5 (by decide)).trans t3, by rw [ha 12 (by decide), ha 63 (by decide)]; exact t4, fun j hj => by rw [ha 12 (by decide)]; exact t5 j hj⟩
theorem RI_sc {I : xI} (h : RI I) (f : Nat → Int32) (e : Int32) : RI (xup I 59 (sc (I 59) f e)) := by
  obtain ⟨hc, tc, ln, S, sz, n, h⟩ := h
  exact ⟨hc, tc, ln, S, sz, n, RL_59 h (fun a ha => xup_n _ _ ha) (fun k hk => by rw [xup_s, sc_o _ _ _ (by omega)])⟩
theorem RI_29 {I : xI} (h : RI I) (v : Int32) : RI (xw I 59 29 v) := by
  obtain ⟨hc, tc, ln, S, sz, n, h⟩ := h
  exact ⟨hc, tc, ln, S, sz, n, RL_59 h (fun a ha => xw_row _ _ _ ha) (fun k hk => xw_k _ _ _ (by omega))⟩
theorem s_count (l : Launch) (G : xG) {d : Nat} (nn : Nat) (hd : 42 ≤ d) {I : xI} (hr : RI I) (what : Int32) : ∃ J J' v, XM l G d y_X_count b_X_count 2 (some .int) 0 0 xK0 [.ref (xg G 0), .int what] nn (xm G xYf I) (some (.int v)) nn (xm G xYf J) ∧ XM l G d y_Model_count b_Model_count 2 (some .int) 0 0 xK0 [.ref (xg G 59), .int what] nn (xm G xYf J) (some (.int v)) nn (xm G xYf J') ∧ RI J' := by
  obtain ⟨hc, tc, ln, S, sz, n, hRL⟩ := id hr
  obtain ⟨hK, hM, hR, hS, hT, hI, hO, hO2, hW⟩ := id hRL
  have h5 := hM.1.2
  have hsz : sOK I sz := fun q hq => ⟨(hS q hq).2.1, (hS q hq).2.2.2.1⟩
  have hmz : msOK I sz := fun q hq => ⟨(hS q hq).2.2.1, (hS q hq).2.2.2.1⟩
  have a := c_X_count l G (d := d) nn I (by omega) hc tc ln S hK what
  have b := c_Model_count l G (d := d) nn (by omega) I hc tc ln S hM what
  rw [hT.2.2.1, ← hT.1] at b
  exact ⟨I, _, _, a, b, hr⟩
theorem s_asks (l : Launch) (G : xG) {d : Nat} (nn : Nat) (hd : 42 ≤ d) {I : xI} (hr : RI I) (part h se : Int32) : ∃ J J' v, XM l G d y_X_asks b_X_asks 4 (some .int) 0 0 xK0 [.ref (xg G 0), .int part, .int h, .int se] nn (xm G xYf I) (some (.int v)) nn (xm G xYf J) ∧ XM l G d y_Model_asks b_Model_asks 4 (some .int) 0 0 xK0 [.ref (xg G 59), .int part, .int h, .int se] nn (xm G xYf J) (some (.int v)) nn (xm G xYf J') ∧ RI J' := by
  obtain ⟨hc, tc, ln, S, sz, n, hRL⟩ := id hr
  obtain ⟨hK, hM, hR, hS, hT, hI, hO, hO2, hW⟩ := id hRL
  have h5 := hM.1.2
  have hsz : sOK I sz := fun q hq => ⟨(hS q hq).2.1, (hS q hq).2.2.2.1⟩
  have hmz : msOK I sz := fun q hq => ⟨(hS q hq).2.2.1, (hS q hq).2.2.2.1⟩
  have a := c_X_asks l G (d := d) nn I (by omega) hc tc ln S hK part h se
  have b := c_Model_asks l G (d := d) nn (by omega) I hc tc ln S hM part h se
  have e := r_aAsks h5 (fun i hi => (hR i hi).symm) (S ln) part h se
  rw [e] at b
  exact ⟨I, _, _, a, b, RI_ite (RI_29 hr _) hr⟩
theorem s_told (l : Launch) (G : xG) {d : Nat} (nn : Nat) (hd : 42 ≤ d) {I : xI} (hr : RI I) (h what : Int32) : ∃ J J' v, XM l G d y_X_told b_X_told 4 (some .int) 0 0 xK0 [.ref (xg G 0), .int h, .int what] nn (xm G xYf I) (some (.int v)) nn (xm G xYf J) ∧ XM l G d y_Model_told b_Model_told 3 (some .int) 0 0 xK0 [.ref (xg G 59), .int h, .int what] nn (xm G xYf J) (some (.int v)) nn (xm G xYf J') ∧ RI J' := by
  obtain ⟨hc, tc, ln, S, sz, n, hRL⟩ := id hr
  obtain ⟨hK, hM, hR, hS, hT, hI, hO, hO2, hW⟩ := id hRL
  have h5 := hM.1.2
  have hsz : sOK I sz := fun q hq => ⟨(hS q hq).2.1, (hS q hq).2.2.2.1⟩
  have hmz : msOK I sz := fun q hq => ⟨(hS q hq).2.2.1, (hS q hq).2.2.2.1⟩
  have a := c_X_told l G (d := d) nn I (by omega) hc tc ln S hK h what
  have b := c_Model_told l G (d := d) nn (by omega) I hc tc ln S hM h what
  have e := r_aTold h5 (fun i hi => (hR i hi).symm) h what
  rw [e] at b
  exact ⟨I, _, _, a, b, hr⟩
theorem s_ends (l : Launch) (G : xG) {d : Nat} (nn : Nat) (hd : 42 ≤ d) {I : xI} (hr : RI I) (h n1 wsp sec what : Int32) : ∃ J J' v, XM l G d y_X_ends b_X_ends 7 (some .int) 0 0 xK0 [.ref (xg G 0), .int h, .int n1, .int wsp, .int sec, .int what] nn (xm G xYf I) (some (.int v)) nn (xm G xYf J) ∧ XM l G d y_Model_ends b_Model_ends 7 (some .int) 0 0 xK0 [.ref (xg G 59), .int h, .int n1, .int wsp, .int sec, .int what] nn (xm G xYf J) (some (.int v)) nn (xm G xYf J') ∧ RI J' := by
  obtain ⟨hc, tc, ln, S, sz, n, hRL⟩ := id hr
  obtain ⟨hK, hM, hR, hS, hT, hI, hO, hO2, hW⟩ := id hRL
  have h5 := hM.1.2
  have hsz : sOK I sz := fun q hq => ⟨(hS q hq).2.1, (hS q hq).2.2.2.1⟩
  have hmz : msOK I sz := fun q hq => ⟨(hS q hq).2.2.1, (hS q hq).2.2.2.1⟩
  have a := c_X_ends l G (d := d) nn I (by omega) hc tc ln S hK h n1 wsp sec what
  have b := c_Model_ends l G (d := d) nn (by omega) I hc tc ln S hM h n1 wsp sec what
  have e := r_aEnds h5 (fun i hi => (hR i hi).symm) (S ln) h n1 wsp sec what
  rw [e] at b
  exact ⟨I, _, _, a, b, RI_ite (RI_sc hr _ _) hr⟩
theorem s_stands (l : Launch) (G : xG) {d : Nat} (nn : Nat) (hd : 42 ≤ d) {I : xI} (hr : RI I) (h sp : Int32) : ∃ J J' v, XM l G d y_X_stands b_X_stands 5 (some .int) 0 0 xK0 [.ref (xg G 0), .int h, .int sp] nn (xm G xYf I) (some (.int v)) nn (xm G xYf J) ∧ XM l G d y_Model_stands b_Model_stands 5 (some .int) 0 0 xK0 [.ref (xg G 59), .int h, .int sp] nn (xm G xYf J) (some (.int v)) nn (xm G xYf J') ∧ RI J' := by
  obtain ⟨hc, tc, ln, S, sz, n, hRL⟩ := id hr
  obtain ⟨hK, hM, hR, hS, hT, hI, hO, hO2, hW⟩ := id hRL
  have h5 := hM.1.2
  have hsz : sOK I sz := fun q hq => ⟨(hS q hq).2.1, (hS q hq).2.2.2.1⟩
  have hmz : msOK I sz := fun q hq => ⟨(hS q hq).2.2.1, (hS q hq).2.2.2.1⟩
  have a := c_X_stands l G (d := d) nn I (by omega) hc tc ln S hK h sp
  have b := c_Model_stands l G (d := d) nn (by omega) I hc tc ln S hM h sp
  have e := r_aStands h5 (fun i hi => (hR i hi).symm) (S ln) h sp
  rw [e] at b
  exact ⟨I, _, _, a, b, RI_ite (RI_sc hr _ _) hr⟩
theorem s_fine (l : Launch) (G : xG) {d : Nat} (nn : Nat) (hd : 42 ≤ d) {I : xI} (hr : RI I) (h much : Int32) : ∃ J J' v, XM l G d y_X_fine b_X_fine 4 (some .int) 0 0 xK0 [.ref (xg G 0), .int h, .int much] nn (xm G xYf I) (some (.int v)) nn (xm G xYf J) ∧ XM l G d y_Model_fine b_Model_fine 4 (some .int) 0 0 xK0 [.ref (xg G 59), .int h, .int much] nn (xm G xYf J) (some (.int v)) nn (xm G xYf J') ∧ RI J' := by
  obtain ⟨hc, tc, ln, S, sz, n, hRL⟩ := id hr
  obtain ⟨hK, hM, hR, hS, hT, hI, hO, hO2, hW⟩ := id hRL
  have h5 := hM.1.2
  have hsz : sOK I sz := fun q hq => ⟨(hS q hq).2.1, (hS q hq).2.2.2.1⟩
  have hmz : msOK I sz := fun q hq => ⟨(hS q hq).2.2.1, (hS q hq).2.2.2.1⟩
  have a := c_X_fine l G (d := d) nn I (by omega) hc tc ln S hK h much
  have b := c_Model_fine l G (d := d) nn (by omega) I hc tc ln S hM h much
  have e := r_aFine h5 (fun i hi => (hR i hi).symm) (S ln) h much
  rw [e] at b
  exact ⟨I, _, _, a, b, RI_ite (RI_sc hr _ _) hr⟩
theorem s_drawn (l : Launch) (G : xG) {d : Nat} (nn : Nat) (hd : 42 ≤ d) {I : xI} (hr : RI I) (seed h sec op what : Int32) : ∃ J J' v, XM l G d y_X_drawn b_X_drawn 6 (some .int) 0 0 xK0 [.ref (xg G 0), .int seed, .int h, .int sec, .int op, .int what] nn (xm G xYf I) (some (.int v)) nn (xm G xYf J) ∧ XM l G d y_Model_drawn b_Model_drawn 6 (some .int) 0 0 xK0 [.ref (xg G 59), .int seed, .int h, .int sec, .int op, .int what] nn (xm G xYf J) (some (.int v)) nn (xm G xYf J') ∧ RI J' := by
  obtain ⟨hc, tc, ln, S, sz, n, hRL⟩ := id hr
  obtain ⟨hK, hM, hR, hS, hT, hI, hO, hO2, hW⟩ := id hRL
  have h5 := hM.1.2
  have hsz : sOK I sz := fun q hq => ⟨(hS q hq).2.1, (hS q hq).2.2.2.1⟩
  have hmz : msOK I sz := fun q hq => ⟨(hS q hq).2.2.1, (hS q hq).2.2.2.1⟩
  have a := c_X_drawn l G (d := d) nn I (by omega) hc tc ln S hK seed h sec op what
  have b := c_Model_drawn l G (d := d) nn (by omega) I hc tc ln S hM seed h sec op what
  have e := r_aDrawn h5 (fun i hi => (hR i hi).symm) (S ln) seed h sec op what
  rw [e] at b
  exact ⟨I, _, _, a, b, RI_ite (RI_sc hr _ _) hr⟩
theorem s_taken (l : Launch) (G : xG) {d : Nat} (nn : Nat) (hd : 42 ≤ d) {I : xI} (hr : RI I) (i kind : Int32) : ∃ J J' v, XM l G d y_X_taken b_X_taken 5 (some .int) 0 0 xK0 [.ref (xg G 0), .int i, .int kind] nn (xm G xYf I) (some (.int v)) nn (xm G xYf J) ∧ XM l G d y_Model_taken b_Model_taken 3 (some .int) 0 0 xK0 [.ref (xg G 59), .int i, .int kind] nn (xm G xYf J) (some (.int v)) nn (xm G xYf J') ∧ RI J' := by
  obtain ⟨hc, tc, ln, S, sz, n, hRL⟩ := id hr
  obtain ⟨hK, hM, hR, hS, hT, hI, hO, hO2, hW⟩ := id hRL
  have h5 := hM.1.2
  have hsz : sOK I sz := fun q hq => ⟨(hS q hq).2.1, (hS q hq).2.2.2.1⟩
  have hmz : msOK I sz := fun q hq => ⟨(hS q hq).2.2.1, (hS q hq).2.2.2.1⟩
  have a := c_X_taken l G (d := d) nn I (by omega) hc tc ln S hK i kind
  have b := c_Model_taken l G (d := d) nn (by omega) I hc tc ln S hM i kind
  have e := r_aTaken h5 (fun i hi => (hR i hi).symm) i kind
  rw [e] at b
  exact ⟨I, _, _, a, b, hr⟩
theorem s_undo (l : Launch) (G : xG) {d : Nat} (nn : Nat) (hd : 42 ≤ d) {I : xI} (hr : RI I) (h sp what : Int32) : ∃ J J' v, XM l G d y_X_undo b_X_undo 8 (some .int) 0 0 xK0 [.ref (xg G 0), .int h, .int sp, .int what] nn (xm G xYf I) (some (.int v)) nn (xm G xYf J) ∧ XM l G d y_Model_undo b_Model_undo 8 (some .int) 0 0 xK0 [.ref (xg G 59), .int h, .int sp, .int what] nn (xm G xYf J) (some (.int v)) nn (xm G xYf J') ∧ RI J' := by
  obtain ⟨hc, tc, ln, S, sz, n, hRL⟩ := id hr
  obtain ⟨hK, hM, hR, hS, hT, hI, hO, hO2, hW⟩ := id hRL
  have h5 := hM.1.2
  have hsz : sOK I sz := fun q hq => ⟨(hS q hq).2.1, (hS q hq).2.2.2.1⟩
  have hmz : msOK I sz := fun q hq => ⟨(hS q hq).2.2.1, (hS q hq).2.2.2.1⟩
  have a := c_X_undo l G (d := d) nn I (by omega) hc tc ln S hK h sp what
  have b := c_Model_undo l G (d := d) nn (by omega) I hc tc ln S hM h sp what
  have e := (q_undo hc (S ln) (mRow I) h sp what).trans (r_aUndo h5 (fun i hi => (hR i hi).symm) (S ln) h sp what)
  rw [e] at b
  exact ⟨I, _, _, a, b, RI_ite (RI_sc hr _ _) hr⟩
theorem s_race (l : Launch) (G : xG) {d : Nat} (nn : Nat) (hd : 42 ≤ d) {I : xI} (hr : RI I) (h n1 sp fw what : Int32) : ∃ J J' v, XM l G d y_X_race b_X_race 7 (some .int) 0 0 xK0 [.ref (xg G 0), .int h, .int n1, .int sp, .int fw, .int what] nn (xm G xYf I) (some (.int v)) nn (xm G xYf J) ∧ XM l G d y_Model_race b_Model_race 6 (some .int) 0 0 xK0 [.ref (xg G 59), .int h, .int n1, .int sp, .int fw, .int what] nn (xm G xYf J) (some (.int v)) nn (xm G xYf J') ∧ RI J' := by
  obtain ⟨hc, tc, ln, S, sz, n, hRL⟩ := id hr
  obtain ⟨hK, hM, hR, hS, hT, hI, hO, hO2, hW⟩ := id hRL
  have h5 := hM.1.2
  have hsz : sOK I sz := fun q hq => ⟨(hS q hq).2.1, (hS q hq).2.2.2.1⟩
  have hmz : msOK I sz := fun q hq => ⟨(hS q hq).2.2.1, (hS q hq).2.2.2.1⟩
  have a := c_X_race l G (d := d) nn I (by omega) hc tc ln S hK h n1 sp fw what
  have b := c_Model_race l G (d := d) nn (by omega) I hc tc ln S hM h n1 sp fw what
  have e := (q_race hc (S ln) (mRow I) h n1 sp fw what).trans (r_aRace h5 (fun i hi => (hR i hi).symm) (S ln) h n1 sp fw what)
  rw [e] at b
  exact ⟨I, _, _, a, b, RI_ite (RI_sc hr _ _) hr⟩
theorem s_pace (l : Launch) (G : xG) {d : Nat} (nn : Nat) (hd : 42 ≤ d) {I : xI} (hr : RI I) (h n1 sp far what : Int32) : ∃ J J' v, XM l G d y_X_pace b_X_pace 10 (some .int) 0 0 xK0 [.ref (xg G 0), .int h, .int n1, .int sp, .int far, .int what] nn (xm G xYf I) (some (.int v)) nn (xm G xYf J) ∧ XM l G d y_Model_pace b_Model_pace 10 (some .int) 0 0 xK0 [.ref (xg G 59), .int h, .int n1, .int sp, .int far, .int what] nn (xm G xYf J) (some (.int v)) nn (xm G xYf J') ∧ RI J' := by
  obtain ⟨hc, tc, ln, S, sz, n, hRL⟩ := id hr
  obtain ⟨hK, hM, hR, hS, hT, hI, hO, hO2, hW⟩ := id hRL
  have h5 := hM.1.2
  have hsz : sOK I sz := fun q hq => ⟨(hS q hq).2.1, (hS q hq).2.2.2.1⟩
  have hmz : msOK I sz := fun q hq => ⟨(hS q hq).2.2.1, (hS q hq).2.2.2.1⟩
  have a := c_X_pace l G (d := d) nn I (by omega) hc tc ln S hK h n1 sp far what
  have b := c_Model_pace l G (d := d) nn (by omega) I hc tc ln S hM h n1 sp far what
  have e := (q_pace hc (S ln) (mRow I) h n1 sp far what).trans (r_aPace h5 (fun i hi => (hR i hi).symm) (S ln) h n1 sp far what)
  rw [e] at b
  exact ⟨I, _, _, a, b, RI_ite (RI_sc hr _ _) hr⟩
theorem s_roses (l : Launch) (G : xG) {d : Nat} (nn : Nat) (hd : 42 ≤ d) {I : xI} (hr : RI I) (h sp sec a1 what : Int32) : ∃ J J' v, XM l G d y_X_roses b_X_roses 11 (some .int) 0 0 xK0 [.ref (xg G 0), .int h, .int sp, .int sec, .int a1, .int what] nn (xm G xYf I) (some (.int v)) nn (xm G xYf J) ∧ XM l G d y_Model_roses b_Model_roses 11 (some .int) 0 0 xK0 [.ref (xg G 59), .int h, .int sp, .int sec, .int a1, .int what] nn (xm G xYf J) (some (.int v)) nn (xm G xYf J') ∧ RI J' := by
  obtain ⟨hc, tc, ln, S, sz, n, hRL⟩ := id hr
  obtain ⟨hK, hM, hR, hS, hT, hI, hO, hO2, hW⟩ := id hRL
  have h5 := hM.1.2
  have hsz : sOK I sz := fun q hq => ⟨(hS q hq).2.1, (hS q hq).2.2.2.1⟩
  have hmz : msOK I sz := fun q hq => ⟨(hS q hq).2.2.1, (hS q hq).2.2.2.1⟩
  have a := c_X_roses l G (d := d) nn I (by omega) hc tc ln S hK h sp sec a1 what
  have b := c_Model_roses l G (d := d) nn (by omega) I hc tc ln S hM h sp sec a1 what
  have e := (q_roses hc (S ln) (mRow I) h sp sec a1 what).trans (r_aRoses h5 (fun i hi => (hR i hi).symm) (S ln) h sp sec a1 what)
  rw [e] at b
  exact ⟨I, _, _, a, b, RI_ite (RI_sc hr _ _) hr⟩
theorem s_odds (l : Launch) (G : xG) {d : Nat} (nn : Nat) (hd : 42 ≤ d) {I : xI} (hr : RI I) (seed ss h op wide part : Int32) : ∃ J J' v, XM l G d y_X_odds b_X_odds 10 (some .long) 0 0 xK0 [.ref (xg G 0), .int seed, .int ss, .int h, .int op, .int wide, .int part] nn (xm G xYf I) (some (.long v)) nn (xm G xYf J) ∧ XM l G d y_Model_odds b_Model_odds 11 (some .long) 0 0 xK0 [.ref (xg G 59), .int seed, .int ss, .int h, .int op, .int wide, .int part] nn (xm G xYf J) (some (.long v)) nn (xm G xYf J') ∧ RI J' := by
  obtain ⟨hc, tc, ln, S, sz, n, hRL⟩ := id hr
  obtain ⟨hK, hM, hR, hS, hT, hI, hO, hO2, hW⟩ := id hRL
  have h5 := hM.1.2
  have hsz : sOK I sz := fun q hq => ⟨(hS q hq).2.1, (hS q hq).2.2.2.1⟩
  have hmz : msOK I sz := fun q hq => ⟨(hS q hq).2.2.1, (hS q hq).2.2.2.1⟩
  have a := c_X_odds l G (d := d) nn I (by omega) hc tc ln S hK seed ss h op wide part
  have b := c_Model_odds l G (d := d) nn (by omega) I hc tc ln S hM seed ss h op wide part
  have e := (q_odds hc (S ln) (mRow I) seed ss h op wide part).trans (r_aOdds h5 (fun i hi => (hR i hi).symm) (S ln) seed ss h op wide part)
  rw [e] at b
  exact ⟨I, _, _, a, b, RI_ite (RI_sc hr _ _) hr⟩
theorem s_wins (l : Launch) (G : xG) {d : Nat} (nn : Nat) (hd : 42 ≤ d) {I : xI} (hr : RI I) (n1 sp fw what : Int32) : ∃ J J' v, XM l G d y_X_wins b_X_wins 9 (some .int) 0 0 xK0 [.ref (xg G 0), .int n1, .int sp, .int fw, .int what] nn (xm G xYf I) (some (.int v)) nn (xm G xYf J) ∧ XM l G d y_Model_wins b_Model_wins 10 (some .int) 0 0 xK0 [.ref (xg G 59), .int n1, .int sp, .int fw, .int what] nn (xm G xYf J) (some (.int v)) nn (xm G xYf J') ∧ RI J' := by
  obtain ⟨hc, tc, ln, S, sz, n, hRL⟩ := id hr
  obtain ⟨hK, hM, hR, hS, hT, hI, hO, hO2, hW⟩ := id hRL
  have h5 := hM.1.2
  have hsz : sOK I sz := fun q hq => ⟨(hS q hq).2.1, (hS q hq).2.2.2.1⟩
  have hmz : msOK I sz := fun q hq => ⟨(hS q hq).2.2.1, (hS q hq).2.2.2.1⟩
  have a := c_X_wins l G (d := d) nn I (by omega) hc tc ln S hK n1 sp fw what
  have b := c_Model_wins l G (d := d) nn (by omega) I hc tc ln S hM n1 sp fw what
  have e := (q_wins h5 (S ln) (mRow I) n1 sp fw what).trans (r_aWins h5 (fun i hi => (hR i hi).symm) (S ln) n1 sp fw what)
  rw [e] at b
  exact ⟨I, _, _, a, b, RI_ite (RI_sc hr _ _) hr⟩
theorem s_judge (l : Launch) (G : xG) {d : Nat} (nn : Nat) (hd : 42 ≤ d) {I : xI} (hr : RI I) (s h n1 sp : Int32) : ∃ J J' v, XM l G d y_X_judge b_X_judge 6 (some .int) 0 0 xK0 [.ref (xg G 0), .int s, .int h, .int n1, .int sp] nn (xm G xYf I) (some (.int v)) nn (xm G xYf J) ∧ XM l G d y_Model_judge b_Model_judge 6 (some .int) 0 0 xK0 [.ref (xg G 59), .int s, .int h, .int n1, .int sp] nn (xm G xYf J) (some (.int v)) nn (xm G xYf J') ∧ RI J' := by
  obtain ⟨hc, tc, ln, S, sz, n, hRL⟩ := id hr
  obtain ⟨hK, hM, hR, hS, hT, hI, hO, hO2, hW⟩ := id hRL
  have h5 := hM.1.2
  have hsz : sOK I sz := fun q hq => ⟨(hS q hq).2.1, (hS q hq).2.2.2.1⟩
  have hmz : msOK I sz := fun q hq => ⟨(hS q hq).2.2.1, (hS q hq).2.2.2.1⟩
  have a := c_X_judge l G (d := d) nn I (by omega) hc tc ln S hK sz hsz s h n1 sp
  have b := c_Model_judge l G (d := d) nn (by omega) I hc tc ln S hM sz hmz s h n1 sp
  have e := (q_judge h5 hR (S ln) (fun q hq => (hS q hq).1) (fun q hq => (hS q hq).2.2.2.1) (fun q hq k hk => (hS q hq).2.2.2.2 k (by have := (hS q hq).2.2.2.1; omega)) s h n1 sp).symm
  rw [e] at b
  exact ⟨I, _, _, a, b, RI_ite (RI_sc hr _ _) hr⟩
theorem s_turned (l : Launch) (G : xG) {d : Nat} (nn : Nat) (hd : 42 ≤ d) {I : xI} (hr : RI I) (s h sp what : Int32) : ∃ J J' v, XM l G d y_X_turned b_X_turned 10 (some .int) 0 0 xK0 [.ref (xg G 0), .int s, .int h, .int sp, .int what] nn (xm G xYf I) (some (.int v)) nn (xm G xYf J) ∧ XM l G d y_Model_turned b_Model_turned 10 (some .int) 0 0 xK0 [.ref (xg G 59), .int s, .int h, .int sp, .int what] nn (xm G xYf J) (some (.int v)) nn (xm G xYf J') ∧ RI J' := by
  obtain ⟨hc, tc, ln, S, sz, n, hRL⟩ := id hr
  obtain ⟨hK, hM, hR, hS, hT, hI, hO, hO2, hW⟩ := id hRL
  have h5 := hM.1.2
  have hsz : sOK I sz := fun q hq => ⟨(hS q hq).2.1, (hS q hq).2.2.2.1⟩
  have hmz : msOK I sz := fun q hq => ⟨(hS q hq).2.2.1, (hS q hq).2.2.2.1⟩
  have a := c_X_turned l G (d := d) nn I (by omega) hc tc ln S hK sz hsz s h sp what
  have b := c_Model_turned l G (d := d) nn (by omega) I hc tc ln S hM sz hmz s h sp what
  have e := q_turned h5 hR (S ln) (fun q hq => (hS q hq).1) (fun q hq => (hS q hq).2.2.2.1) (fun q hq k hk => (hS q hq).2.2.2.2 k (by have := (hS q hq).2.2.2.1; omega)) s h sp what
  rw [e] at b
  exact ⟨I, _, _, a, b, RI_ite (RI_sc hr _ _) hr⟩
theorem s_kinds (l : Launch) (G : xG) {d : Nat} (nn : Nat) (hd : 42 ≤ d) {I : xI} (hr : RI I) (s h n1 sp sort : Int32) : ∃ J J' v, XM l G d y_X_kinds b_X_kinds 10 (some .int) 0 0 xK0 [.ref (xg G 0), .int s, .int h, .int n1, .int sp, .int sort] nn (xm G xYf I) (some (.int v)) nn (xm G xYf J) ∧ XM l G d y_Model_kinds b_Model_kinds 12 (some .int) 0 0 xK0 [.ref (xg G 59), .int s, .int h, .int n1, .int sp, .int sort] nn (xm G xYf J) (some (.int v)) nn (xm G xYf J') ∧ RI J' := by
  obtain ⟨hc, tc, ln, S, sz, n, hRL⟩ := id hr
  obtain ⟨hK, hM, hR, hS, hT, hI, hO, hO2, hW⟩ := id hRL
  have h5 := hM.1.2
  have hsz : sOK I sz := fun q hq => ⟨(hS q hq).2.1, (hS q hq).2.2.2.1⟩
  have hmz : msOK I sz := fun q hq => ⟨(hS q hq).2.2.1, (hS q hq).2.2.2.1⟩
  have a := c_X_kinds l G (d := d) nn I (by omega) hc tc ln S hK sz hsz s h n1 sp sort
  have b := c_Model_kinds l G (d := d) nn (by omega) I hc tc ln S hM sz hmz s h n1 sp sort
  have e := q_kinds h5 hR (S ln) (fun q hq => (hS q hq).1) (fun q hq => (hS q hq).2.2.2.1) (fun q hq k hk => (hS q hq).2.2.2.2 k (by have := (hS q hq).2.2.2.1; omega)) s h n1 sp sort
  rw [e] at b
  exact ⟨I, _, _, a, b, RI_ite (RI_sc hr _ _) hr⟩
theorem s_laws (l : Launch) (G : xG) {d : Nat} (nn : Nat) (hd : 42 ≤ d) {I : xI} (hr : RI I) (s h n1 sp : Int32) : ∃ J J' v, XM l G d y_X_laws b_X_laws 8 (some .int) 0 0 xK0 [.ref (xg G 0), .int s, .int h, .int n1, .int sp] nn (xm G xYf I) (some (.int v)) nn (xm G xYf J) ∧ XM l G d y_Model_laws b_Model_laws 9 (some .int) 0 0 xK0 [.ref (xg G 59), .int s, .int h, .int n1, .int sp] nn (xm G xYf J) (some (.int v)) nn (xm G xYf J') ∧ RI J' := by
  obtain ⟨hc, tc, ln, S, sz, n, hRL⟩ := id hr
  obtain ⟨hK, hM, hR, hS, hT, hI, hO, hO2, hW⟩ := id hRL
  have h5 := hM.1.2
  have hsz : sOK I sz := fun q hq => ⟨(hS q hq).2.1, (hS q hq).2.2.2.1⟩
  have hmz : msOK I sz := fun q hq => ⟨(hS q hq).2.2.1, (hS q hq).2.2.2.1⟩
  have a := c_X_laws l G (d := d) nn I (by omega) hc tc ln S hK sz hsz s h n1 sp
  have b := c_Model_laws l G (d := d) nn (by omega) I hc tc ln S hM sz hmz s h n1 sp
  have e := q_laws h5 hR tc S (fun q hq => (hS q hq).1) (fun q hq => (hS q hq).2.2.2.1) (fun q hq k hk => (hS q hq).2.2.2.2 k (by have := (hS q hq).2.2.2.1; omega)) s h n1 sp
  rw [e] at b
  exact ⟨I, _, _, a, b, RI_ite (RI_sc hr _ _) hr⟩
theorem s_whose (l : Launch) (G : xG) {d : Nat} (nn : Nat) (hd : 42 ≤ d) {I : xI} (hr : RI I) (s n1 sp : Int32) : ∃ J J' v, XM l G d y_X_whose b_X_whose 7 (some .int) 0 0 xK0 [.ref (xg G 0), .int s, .int n1, .int sp] nn (xm G xYf I) (some (.int v)) nn (xm G xYf J) ∧ XM l G d y_Model_whose b_Model_whose 7 (some .int) 0 0 xK0 [.ref (xg G 59), .int s, .int n1, .int sp] nn (xm G xYf J) (some (.int v)) nn (xm G xYf J') ∧ RI J' := by
  obtain ⟨hc, tc, ln, S, sz, n, hRL⟩ := id hr
  obtain ⟨hK, hM, hR, hS, hT, hI, hO, hO2, hW⟩ := id hRL
  have h5 := hM.1.2
  have hsz : sOK I sz := fun q hq => ⟨(hS q hq).2.1, (hS q hq).2.2.2.1⟩
  have hmz : msOK I sz := fun q hq => ⟨(hS q hq).2.2.1, (hS q hq).2.2.2.1⟩
  have a := c_X_whose l G (d := d) nn I (by omega) hc tc ln S hK sz hsz s n1 sp
  have b := c_Model_whose l G (d := d) nn (by omega) I hc tc ln S hM sz hmz s n1 sp
  have e := q_whose h5 hR (S ln) (fun q hq => (hS q hq).1) (fun q hq => (hS q hq).2.2.2.1) (fun q hq k hk => (hS q hq).2.2.2.2 k (by have := (hS q hq).2.2.2.1; omega)) s n1 sp
  rw [e] at b
  exact ⟨I, _, _, a, b, RI_ite (RI_sc hr _ _) hr⟩
