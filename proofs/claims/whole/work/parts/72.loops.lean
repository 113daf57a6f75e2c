theorem vTk_rng (g : Nat → Int32) (n q : Nat) : vTk g n q = -1 ∨ vTk g n q = 0 ∨ vTk g n q = 1 ∨ vTk g n q = 40 ∨ vTk g n q = 41 ∨ vTk g n q = 59 ∨ vTk g n q = 43 ∨ vTk g n q = 45 ∨ vTk g n q = 42 ∨ vTk g n q = 60 ∨ vTk g n q = 61 ∨ vTk g n q = 128 ∨ vTk g n q = 129 ∨ vTk g n q = 130 ∨ vTk g n q = 131 ∨ vTk g n q = 132 ∨ vTk g n q = 133 ∨ vTk g n q = 134 ∨ vTk g n q = 135 ∨ vTk g n q = 136 ∨ vTk g n q = 137 ∨ vTk g n q = 138 ∨ vTk g n q = 139 := by
  have hw : ∀ (v : Int64) k, k ≤ 12 → wTok v k = -1 ∨ ∃ j, j < 12 ∧ wTok v k = 128 + nI j := by
    intro v k
    induction k with
    | zero => intro _; exact Or.inl rfl
    | succ k ih =>
      intro hk
      rw [wTok]
      split
      · exact Or.inr ⟨k, hk, rfl⟩
      · exact ih (by omega)
  have hj : ∀ j, j < 12 → 128 + nI j = -1 ∨ 128 + nI j = 0 ∨ 128 + nI j = 1 ∨ 128 + nI j = 40 ∨ 128 + nI j = 41 ∨ 128 + nI j = 59 ∨ 128 + nI j = 43 ∨ 128 + nI j = 45 ∨ 128 + nI j = 42 ∨ 128 + nI j = 60 ∨ 128 + nI j = 61 ∨ 128 + nI j = 128 ∨ 128 + nI j = 129 ∨ 128 + nI j = 130 ∨ 128 + nI j = 131 ∨ 128 + nI j = 132 ∨ 128 + nI j = 133 ∨ 128 + nI j = 134 ∨ 128 + nI j = 135 ∨ 128 + nI j = 136 ∨ 128 + nI j = 137 ∨ 128 + nI j = 138 ∨ 128 + nI j = 139 := by decide
  unfold vTk
  split
  · exact Or.inr (Or.inl rfl)
  · split
    · rcases hw (wNum g n q (rRun bLetter g n 160 q - q)) 12 (Nat.le_refl _) with h | ⟨j, h1, h⟩
      · rw [h]; exact Or.inl rfl
      · rw [h]; exact hj j h1
    · split
      · split
        · exact Or.inl rfl
        · exact Or.inr (Or.inr (Or.inl rfl))
      · split
        · rename_i hs
          simp [bSign] at hs
          grind
        · exact Or.inl rfl
abbrev zc (g : Nat → Int32) (n p : Nat) : Int32 := vTk g n (zBl g n p)
theorem RC_adv {g : Nat → Int32} {n t : Nat} {I : xI} {p : Nat} {cs : List Int32} {o : Nat} (hB : ∀ j, j < n → ¬ g j < 0) (hn : n ≤ 160) (ht : 15 ≤ t) (h : RC g n t I p cs o) (hq : zBl g n p < n) : RC g n t (iAdv I) (vNx g n (zBl g n p)) cs o := by
  obtain ⟨⟨h12, h2, hp⟩, ⟨h3, h4, h5, nu, h6⟩, h7, h8, ht3, hc⟩ := h
  have hx := vNx_b hB hn hq
  have e1 : (I 11 2).toNatClampNeg = n := by rw [h2, nI_cl (by omega)]
  have e2 : (I 11 3).toNatClampNeg = vNx g n (zBl g n p) := by rw [h3, nI_cl (by omega)]
  have e : iAdv I = xup I 11 (vAd (I 11) g n (zBl g n (vNx g n (zBl g n p))) (I 11 6) (I 11 7) (I 11 8)) := by rw [iAdv, e1, e2, h12]; rfl
  rw [e]
  refine ⟨⟨?_, ?_, hx.2⟩, ⟨?_, ?_, ?_, I 11 6, ?_⟩, ?_, ?_, ?_, fun j hj => ?_⟩
  · rw [xup_n _ _ (by decide)]; exact h12
  · rw [xup_s, vAd, rQ_2]; exact h2
  · rw [xup_s, vAd, rQ_3]
  · rw [xup_s, vAd, rQ_4]
  · rw [xup_s, vAd, rQ_5]
  · rw [xup_s, vAd, rQ_6]
  · rw [xup_s, vAd, rQ_7]; exact h7
  · rw [xup_s, vAd, rQ_8]; exact h8
  · rw [xup_n _ _ (by omega)]; exact ht3
  · rw [xup_n _ _ (by omega)]; exact hc j hj
theorem RC_o {g : Nat → Int32} {n t : Nat} {I : xI} {p : Nat} {cs : List Int32} {o o' : Nat} (ht : 15 ≤ t) (h : RC g n t I p cs o) {v : Int32} (hv : v = nI o') : RC g n t (xw I 11 7 v) p cs o' := by
  obtain ⟨⟨h12, h2, hp⟩, ⟨h3, h4, h5, nu, h6⟩, h7, h8, ht3, hc⟩ := h
  refine ⟨⟨?_, ?_, hp⟩, ⟨?_, ?_, ?_, nu, ?_⟩, ?_, ?_, ?_, fun j hj => ?_⟩
  · rw [xw_row _ _ _ (by decide)]; exact h12
  · rw [xw_k _ _ _ (by decide)]; exact h2
  · rw [xw_k _ _ _ (by decide)]; exact h3
  · rw [xw_k _ _ _ (by decide)]; exact h4
  · rw [xw_k _ _ _ (by decide)]; exact h5
  · rw [xw_k _ _ _ (by decide)]; exact h6
  · rw [xw_s]; exact hv
  · rw [xw_k _ _ _ (by decide)]; exact h8
  · rw [xw_row _ _ _ (by omega)]; exact ht3
  · rw [xw_row _ _ _ (by omega)]; exact hc j hj
theorem RC_inc {g : Nat → Int32} {n t : Nat} {I : xI} {p : Nat} {cs : List Int32} {o : Nat} (ht : 15 ≤ t) (h : RC g n t I p cs o) : RC g n t (iInc I) p cs (o + 1) := RC_o ht h (by rw [h.2.2.1, nI_1])
theorem RC_dec {g : Nat → Int32} {n t : Nat} {I : xI} {p : Nat} {cs : List Int32} {o : Nat} (ht : 15 ≤ t) (h : RC g n t I p cs (o + 1)) : RC g n t (iDec I) p cs o := RC_o ht h (by rw [h.2.2.1, nI_pred])
theorem getD_app {l : List Int32} {c : Int32} {j : Nat} (h : j < (l ++ [c]).length) : (j < l.length ∧ (l ++ [c]).getD j 0 = l.getD j 0) ∨ (j = l.length ∧ (l ++ [c]).getD j 0 = c) := by
  rw [List.length_append, List.length_singleton] at h
  rcases Nat.lt_or_ge j l.length with z | z
  · exact Or.inl ⟨z, by rw [List.getD_eq_getElem?_getD, List.getElem?_append_left z, ← List.getD_eq_getElem?_getD]⟩
  · have : j = l.length := by omega
    subst this
    exact Or.inr ⟨rfl, by rw [List.getD_eq_getElem?_getD, List.getElem?_append_right (Nat.le_refl _), Nat.sub_self]; rfl⟩
theorem RC_add {g : Nat → Int32} {n t : Nat} {I : xI} {p : Nat} {cs : List Int32} {o : Nat} (ht : 15 ≤ t) (h : RC g n t I p cs o) (hl : cs.length < 160) {c v : Int32} (hv : tCode c = v) : RC g n t (iAdd t v I) p (cs ++ [c]) o := by
  obtain ⟨⟨h12, h2, hp⟩, ⟨h3, h4, h5, nu, h6⟩, h7, h8, ht3, hc⟩ := h
  have e : iAdd t v I = xw (xw I (t + 1) cs.length v) t 3 (nI (cs.length + 1)) := by
    rw [iAdd, if_pos (by rw [ht3]; exact ⟨Int32.not_lt.mp (nI_pos (by omega)), (nI_ltI (b := 160) (by omega) (by decide)).mpr hl⟩), ht3, nI_cl (by omega), nI_1]
  have r11 : ∀ k, (xw (xw I (t + 1) cs.length v) t 3 (nI (cs.length + 1))) 11 k = I 11 k := fun k => by rw [xw_row _ _ _ (by omega), xw_row _ _ _ (by omega)]
  rw [e]
  refine ⟨⟨?_, ?_, hp⟩, ⟨?_, ?_, ?_, nu, ?_⟩, ?_, ?_, ?_, fun j hj => ?_⟩
  · rw [xw_row _ _ _ (by omega), xw_row _ _ _ (by omega)]; exact h12
  · rw [r11]; exact h2
  · rw [r11]; exact h3
  · rw [r11]; exact h4
  · rw [r11]; exact h5
  · rw [r11]; exact h6
  · rw [r11]; exact h7
  · rw [r11]; exact h8
  · rw [xw_s, List.length_append, List.length_singleton]
  · rw [xw_row _ _ _ (by omega), xw_is, xup_s]
    rcases getD_app hj with ⟨z, e⟩ | ⟨z, e⟩
    · rw [e, xup_n _ _ (by omega)]; exact hc j z
    · rw [e, z, xup_s]; exact hv.symm
theorem iAdd_11 {t : Nat} (ht : 15 ≤ t) (v : Int32) (I : xI) : (iAdd t v I) 11 = I 11 := by
  unfold iAdd
  split
  · rw [xw_row _ _ _ (by omega), xw_row _ _ _ (by omega)]
  · rfl
theorem RC_at {g : Nat → Int32} {n t : Nat} {I : xI} {p : Nat} {cs : List Int32} {o : Nat} (h : RC g n t I p cs o) (w : Int32) : bAt w I = decide (zc g n p = w) := by
  rw [bAt, h.2.2.2.1, h.2.1.2.2.1]
  rfl
theorem RC_ok {g : Nat → Int32} {n t : Nat} {I : xI} {p : Nat} {cs : List Int32} {o : Nat} (h : RC g n t I p cs o) : ¬ 0 ≤ I 11 8 := by rw [h.2.2.2.1]; decide
theorem RC_fail {g : Nat → Int32} {n t : Nat} {I : xI} {p : Nat} {cs : List Int32} {o : Nat} (h : RC g n t I p cs o) : (iFail I) 11 8 = nI (zBl g n p) := by
  rw [iFail, xw_s, rFail, if_neg (RC_ok h)]
  exact h.2.1.2.1
theorem bAt_f {I : xI} (h : 0 ≤ I 11 8) (w : Int32) : bAt w I = false := by rw [bAt, decide_eq_true h]; rfl
def STK (F : xI → xI) : Prop := ∀ I, 0 ≤ I 11 8 → F I 11 8 = I 11 8
def dpt (nd : Nat) (X : List Int32) : Prop := ∀ rest m, m + nd ≤ 40 → tDep (X ++ rest) m = tDep rest (m + 1)
def RES (wd g : Nat → Int32) (n t : Nat) (F : xI) (r : Int32) (o nd : Nat) (post : Nat → List Int32 → Int32 → List Int32 → Prop) (p : Nat) (K cs : List Int32) (y : Bool) : Prop :=
  (∃ p' X K2 o2 cs2 y2, RC g n t F p' (cs ++ X) o ∧ p < p' ∧ zGo wd g n p K (nI o) cs true y p' K2 o2 cs2 false y2 ∧ zUn r K2 o2 cs2 = zUn r K (nI o) (cs ++ X) ∧ post p' K2 o2 cs2 ∧ dpt nd X ∧ K.length + (cs ++ X).length ≤ p') ∨ (∃ f, F 11 8 = nI f ∧ f ≤ 160 ∧ zNo wd g n p K (nI o) cs true y f)
def yk (ym : Bool) (g : Nat → Int32) (n p : Nat) (y : Bool) : Prop := if ym = true then y = true else (y = true → ¬ zc g n p = 133)
def SIM (wd g : Nat → Int32) (n t : Nat) (F : xI → xI) (r s : Int32) (o nd : Nat) (post : Nat → List Int32 → Int32 → List Int32 → Prop) (ym : Bool) : Prop := ∀ (I : xI) (p : Nat) (K cs : List Int32) (y : Bool), RC g n t I p cs o → stab s K → K.length + cs.length ≤ p → yk ym g n p y → RES wd g n t (F I) r o nd post p K cs y
theorem zLk_tok {wd g : Nat → Int32} {n p : Nat} (hW : ∀ j, j < 96 → wd j = zWd j) (hB : ∀ j, j < n → ¬ g j < 0) (hn : n ≤ 160) (hp : p ≤ n) : zTk wd g n (zBl g n p) = tkOf (zc g n p) := (lex_all wd g n _ hW hB hn (zBl_b g hp).2).1
theorem zc_lt {g : Nat → Int32} {n p : Nat} (h : ¬ zc g n p = 0) : zBl g n p < n := by
  apply Nat.lt_of_not_le
  intro z
  apply h
  have hb : rB g n (zBl g n p) = -1 := if_neg (by omega)
  show vTk g n (zBl g n p) = 0
  rw [vTk, hb, if_pos (by decide)]
/-- a sign of a rank but 4 comes -/
theorem go_sign {wd g : Nat → Int32} {n p : Nat} (hW : ∀ j, j < 96 → wd j = zWd j) (hB : ∀ j, j < n → ¬ g j < 0) (hn : n ≤ 160) (hp : p ≤ n) {c sg : Int32} (hc : zc g n p = c) (h1 : zSg (tkOf c) = sg) (h2 : ¬ tkOf c = 59) (h3 : ¬ tkOf c = 41) (h4 : ¬ sg = -1) (h5 : ¬ zRank sg = 4) (h0 : ¬ c = 0) {K2 : List Int32} {o2 : Int32} {cs2 : List Int32} {y : Bool} {K1 : List Int32} {o1 : Int32} {c1 : List Int32} (hU : zUn (zRank sg) K2 o2 cs2 = (K1, o1, c1)) : zGo wd g n p K2 o2 cs2 false y (vNx g n (zBl g n p)) (sg :: K1) o1 c1 true (decide (sg ≤ 12)) := by
  have ht : zTk wd g n (zBl g n p) = tkOf c := by rw [zLk_tok hW hB hn hp, hc]
  refine zGo_s hB hn hp (zc_lt (by rw [hc]; exact h0)) ?_
  rw [ht]
  have hr : zR0 sg = zRank sg := if_neg h5
  have hb : ¬ zBad sg K1 = true := by simp [zBad, h5]
  unfold zStp
  rw [if_neg (by decide), if_neg h2, if_neg h3, h1, if_neg h4, hr, hU, if_neg hb]
theorem tDep_bin {sg : Int32} (h1 : tLeaf sg = false) (h2 : tUn sg = false) (h3 : tBin sg = true) (rest : List Int32) (m : Nat) : tDep (sg :: rest) (m + 2) = tDep rest (m + 1) := by
  rw [tDep, if_neg (by rw [h1]; decide), if_neg (by rw [h2]; decide), h3, decide_eq_true (show 2 ≤ m + 2 by omega)]
  rfl
theorem dpt_bin {nd : Nat} {X Y : List Int32} {sg : Int32} (h1 : tLeaf sg = false) (h2 : tUn sg = false) (h3 : tBin sg = true) (hX : dpt (nd + 1) X) (hY : dpt nd Y) : dpt (nd + 1) (X ++ (Y ++ [sg])) := by
  intro rest m hm
  rw [List.append_assoc, hX _ m hm, List.append_assoc, hY _ (m + 1) (by omega)]
  exact tDep_bin h1 h2 h3 rest m
theorem zUn_sg {sg : Int32} (h13 : ¬ (sg = 13 ∨ sg = 19)) {R : Int32} (hR : zRank sg = R) {K : List Int32} (hK : stab R K) (o : Int32) (cs : List Int32) : zUn R (sg :: K) o cs = (K, o, cs ++ [sg]) := by
  rw [zUn, if_pos (by rw [hR]; exact Int32.le_refl _), if_neg h13, Int32.sub_zero, zUn_st hK]
/-- a level of signs that bind alike: L the loop, tok whether a token is one, sgn the sign, one the level below -/
theorem loop_sim {wd g : Nat → Int32} {n t : Nat} (hW : ∀ j, j < 96 → wd j = zWd j) (hB : ∀ j, j < n → ¬ g j < 0) (hn : n ≤ 160) (ht : 15 ≤ t) {sub : xI → xI} {r s R : Int32} {o nd : Nat} {post : Nat → List Int32 → Int32 → List Int32 → Prop} {ym : Bool} (hS : SIM wd g n t sub r s o nd post ym) (hK : STK sub) (L : Nat → xI → xI) (T : xI → Prop) (tok : Int32 → Prop) (sgn : Int32 → Int32) (itm : xI → Int32)
    (hL0 : ∀ I, L 0 I = I) (hLy : ∀ j I, T I → L (j + 1) I = L j (iAdd t (itm I) (sub (iAdv I)))) (hLn : ∀ j I, ¬ T I → L (j + 1) I = I) (hTf : ∀ I, 0 ≤ I 11 8 → ¬ T I) (hTc : ∀ I p cs, RC g n t I p cs o → (T I ↔ tok (zc g n p))) (hit : ∀ I p cs, RC g n t I p cs o → tok (zc g n p) → tCode (sgn (zc g n p)) = itm I)
    (hRr : R ≤ r) (hsR : ¬ s ≤ R) (hcs : ∀ c, tok c → zSg (tkOf c) = sgn c ∧ ¬ tkOf c = 59 ∧ ¬ tkOf c = 41 ∧ ¬ sgn c = -1 ∧ zRank (sgn c) = R ∧ ¬ c = 0 ∧ ¬ (sgn c = 13 ∨ sgn c = 19) ∧ tLeaf (sgn c) = false ∧ tUn (sgn c) = false ∧ tBin (sgn c) = true ∧ (decide (sgn c ≤ 12) = ym)) (hR4 : ¬ R = 4) (K : List Int32) (hst : stab R K) :
    ∀ (j : Nat) (I : xI) (p : Nat) (cs K2 : List Int32) (o2 : Int32) (cs2 : List Int32) (y2 : Bool), RC g n t I p cs o → zUn R K2 o2 cs2 = (K, nI o, cs) → post p K2 o2 cs2 → K.length + cs.length ≤ p → n < p + j →
      (∃ p' X K3 o3 cs3 y3, RC g n t (L j I) p' (cs ++ X) o ∧ p ≤ p' ∧ zGo wd g n p K2 o2 cs2 false y2 p' K3 o3 cs3 false y3 ∧ zUn R K3 o3 cs3 = (K, nI o, cs ++ X) ∧ (post p' K3 o3 cs3 ∧ ¬ tok (zc g n p')) ∧ (∀ Z, dpt (nd + 1) Z → dpt (nd + 1) (Z ++ X)) ∧ K.length + (cs ++ X).length ≤ p') ∨ (∃ f, (L j I) 11 8 = nI f ∧ f ≤ 160 ∧ zNo wd g n p K2 o2 cs2 false y2 f)
  | 0, I, p, cs, K2, o2, cs2, y2, hrc, hU, hpo, hl, hj => absurd hj (by have := hrc.1.2.2; omega)
  | j + 1, I, p, cs, K2, o2, cs2, y2, hrc, hU, hpo, hl, hj => by
    have hp := hrc.1.2.2
    by_cases hT : T I
    · have htk := (hTc I p cs hrc).mp hT
      obtain ⟨a1, a2, a3, a4, a5, a6, a7, a8, a9, a10, a11⟩ := hcs _ htk
      have hq := zc_lt a6
      have hx := vNx_b hB hn hq
      have hbl := zBl_b g hp
      have hadv := RC_adv hB hn ht hrc hq
      have hitm := hit I p cs hrc htk
      have hgo := go_sign (wd := wd) (y := y2) hW hB hn hp (sg := sgn (zc g n p)) rfl a1 a2 a3 a4 (by rw [a5]; exact hR4) a6 (K2 := K2) (o2 := o2) (cs2 := cs2) (K1 := K) (o1 := nI o) (c1 := cs) (by rw [a5]; exact hU)
      rw [a11] at hgo
      have hyk : yk ym g n (vNx g n (zBl g n p)) ym := by
        unfold yk
        cases ym with
        | true => rw [if_pos rfl]
        | false => rw [if_neg (by decide)]; intro z; exact absurd z (by decide)
      have hsub := hS (iAdv I) _ (sgn (zc g n p) :: K) cs ym hadv (stab_cons (by rw [a5]; exact hsR) K) (by rw [List.length_cons]; omega) hyk
      rw [hLy j I hT]
      rcases hsub with ⟨p', X, K3, o3, cs3, y3, b1, b2, b3, b4, b5, b6, b7⟩ | ⟨f, b1, b2, b3⟩
      · rw [List.length_cons] at b7
        have hp' := b1.1.2.2
        have hadd := RC_add ht b1 (by omega) hitm
        have hU2 : zUn R K3 o3 cs3 = (K, nI o, cs ++ X ++ [sgn (zc g n p)]) := by rw [← zUn_cp hRr K3 o3 cs3, b4, zUn_cp hRr, zUn_sg a7 a5 hst]
        rcases loop_sim hW hB hn ht hS hK L T tok sgn itm hL0 hLy hLn hTf hTc hit hRr hsR hcs hR4 K hst j _ p' (cs ++ X ++ [sgn (zc g n p)]) K3 o3 cs3 y3 hadd hU2 b5 (by rw [List.length_append, List.length_singleton]; omega) (by omega) with ⟨p2, X2, K4, o4, cs4, y4, d1, d2, d3, d4, d5, d6, d7⟩ | ⟨f, d1, d2, d3⟩
        · have ea : cs ++ X ++ [sgn (zc g n p)] ++ X2 = cs ++ (X ++ [sgn (zc g n p)] ++ X2) := by simp only [List.append_assoc]
          rw [ea] at d1 d4 d7
          refine Or.inl ⟨p2, X ++ [sgn (zc g n p)] ++ X2, K4, o4, cs4, y4, d1, by omega, zGo_tr hgo (zGo_tr b3 d3), d4, d5, fun Z hZ => ?_, d7⟩
          have := d6 (Z ++ (X ++ [sgn (zc g n p)])) (dpt_bin a8 a9 a10 hZ b6)
          rw [List.append_assoc] at this
          exact this
        · exact Or.inr ⟨f, d1, d2, zGo_no hgo hx.2 (zGo_no b3 hp' d3)⟩
      · have hstop : ∀ j I, 0 ≤ I 11 8 → L j I = I := by
          intro j I hI
          cases j with
          | zero => exact hL0 I
          | succ j => exact hLn j I (hTf I hI)
        have e8 : (iAdd t (itm I) (sub (iAdv I))) 11 8 = nI f := by rw [iAdd_11 ht]; exact b1
        refine Or.inr ⟨f, ?_, b2, zGo_no hgo hx.2 b3⟩
        rw [hstop j _ (by rw [e8]; exact Int32.not_lt.mp (nI_pos (by omega)))]
        exact e8
    · rw [hLn j I hT]
      refine Or.inl ⟨p, [], K2, o2, cs2, y2, ?_, Nat.le_refl _, ⟨Nat.le_refl _, 0, Nat.zero_le _, fun f => rfl⟩, ?_, ⟨hpo, fun z => hT ((hTc I p cs hrc).mpr z)⟩, ?_, ?_⟩
      · rw [List.append_nil]; exact hrc
      · rw [List.append_nil]; exact hU
      · intro Z hZ; rw [List.append_nil]; exact hZ
      · rw [List.append_nil]; exact hl
theorem dpt_mono {a b : Nat} (h : a ≤ b) {X : List Int32} (hX : dpt a X) : dpt b X := fun rest m hm => hX rest m (by omega)
theorem lev_stk {sub : xI → xI} (hK : STK sub) (L : Nat → xI → xI) (T : xI → Prop) (hL0 : ∀ I, L 0 I = I) (hLn : ∀ j I, ¬ T I → L (j + 1) I = I) (hTf : ∀ I, 0 ≤ I 11 8 → ¬ T I) (j : Nat) : STK (fun I => L j (sub I)) := by
  intro I hI
  have h1 := hK I hI
  have h2 : 0 ≤ (sub I) 11 8 := by rw [h1]; exact hI
  show (L j (sub I)) 11 8 = I 11 8
  cases j with
  | zero => rw [hL0]; exact h1
  | succ j => rw [hLn j _ (hTf _ h2)]; exact h1
theorem lev_sim {wd g : Nat → Int32} {n t : Nat} (hW : ∀ j, j < 96 → wd j = zWd j) (hB : ∀ j, j < n → ¬ g j < 0) (hn : n ≤ 160) (ht : 15 ≤ t) {sub : xI → xI} {r s R : Int32} {o nd : Nat} {post : Nat → List Int32 → Int32 → List Int32 → Prop} {ym : Bool} (hS : SIM wd g n t sub r s o nd post ym) (hK : STK sub) (L : Nat → xI → xI) (T : xI → Prop) (tok : Int32 → Prop) (sgn : Int32 → Int32) (itm : xI → Int32)
    (hL0 : ∀ I, L 0 I = I) (hLy : ∀ j I, T I → L (j + 1) I = L j (iAdd t (itm I) (sub (iAdv I)))) (hLn : ∀ j I, ¬ T I → L (j + 1) I = I) (hTf : ∀ I, 0 ≤ I 11 8 → ¬ T I) (hTc : ∀ I p cs, RC g n t I p cs o → (T I ↔ tok (zc g n p))) (hit : ∀ I p cs, RC g n t I p cs o → tok (zc g n p) → tCode (sgn (zc g n p)) = itm I)
    (hRr : R ≤ r) (hRs : R ≤ s) (hsR : ¬ s ≤ R) (hcs : ∀ c, tok c → zSg (tkOf c) = sgn c ∧ ¬ tkOf c = 59 ∧ ¬ tkOf c = 41 ∧ ¬ sgn c = -1 ∧ zRank (sgn c) = R ∧ ¬ c = 0 ∧ ¬ (sgn c = 13 ∨ sgn c = 19) ∧ tLeaf (sgn c) = false ∧ tUn (sgn c) = false ∧ tBin (sgn c) = true ∧ (decide (sgn c ≤ 12) = ym)) (hR4 : ¬ R = 4) :
    SIM wd g n t (fun I => L 160 (sub I)) R R o (nd + 1) (fun p K o c => post p K o c ∧ ¬ tok (zc g n p)) ym := by
  intro I p K cs y hrc hst hl hyk
  rcases hS I p K cs y hrc (stab_mono hRs hst) hl hyk with ⟨p', X, K2, o2, cs2, y2, b1, b2, b3, b4, b5, b6, b7⟩ | ⟨f, b1, b2, b3⟩
  · have hp' := b1.1.2.2
    have hU : zUn R K2 o2 cs2 = (K, nI o, cs ++ X) := by rw [← zUn_cp hRr K2 o2 cs2, b4, zUn_cp hRr, zUn_st hst]
    rcases loop_sim hW hB hn ht hS hK L T tok sgn itm hL0 hLy hLn hTf hTc hit hRr hsR hcs hR4 K hst 160 _ p' (cs ++ X) K2 o2 cs2 y2 b1 hU b5 b7 (by omega) with ⟨p2, X2, K4, o4, cs4, y4, d1, d2, d3, d4, d5, d6, d7⟩ | ⟨f, d1, d2, d3⟩
    · rw [List.append_assoc] at d1 d4 d7
      refine Or.inl ⟨p2, X ++ X2, K4, o4, cs4, y4, d1, by omega, zGo_tr b3 d3, ?_, d5, d6 X (dpt_mono (by omega) b6), d7⟩
      rw [d4, zUn_st hst]
    · exact Or.inr ⟨f, d1, d2, zGo_no b3 hp' d3⟩
  · refine Or.inr ⟨f, ?_, b2, b3⟩
    have h0 : 0 ≤ (sub I) 11 8 := by rw [b1]; exact Int32.not_lt.mp (nI_pos (by omega))
    show (L 160 (sub I)) 11 8 = nI f
    rw [show (160 : Nat) = 159 + 1 from rfl, hLn 159 _ (hTf _ h0)]
    exact b1
