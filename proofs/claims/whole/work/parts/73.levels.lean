def po7 : Nat → List Int32 → Int32 → List Int32 → Prop := fun _ _ _ _ => True
def po6 (g : Nat → Int32) (n : Nat) : Nat → List Int32 → Int32 → List Int32 → Prop := fun p K o c => po7 p K o c ∧ ¬ zc g n p = 42
def po5 (g : Nat → Int32) (n : Nat) : Nat → List Int32 → Int32 → List Int32 → Prop := fun p K o c => po6 g n p K o c ∧ ¬ (zc g n p = 43 ∨ zc g n p = 45)
def po3 (g : Nat → Int32) (n : Nat) : Nat → List Int32 → Int32 → List Int32 → Prop := fun p K o c => po5 g n p K o c ∧ ((zc g n p = 60 ∨ zc g n p = 61) → ∃ t1 K3 o3 c3, zUn 5 K o c = (t1 :: K3, o3, c3) ∧ zRank t1 = 4)
def po2 (g : Nat → Int32) (n : Nat) : Nat → List Int32 → Int32 → List Int32 → Prop := fun p K o c => po3 g n p K o c ∧ ¬ zc g n p = 132
def po1 (g : Nat → Int32) (n : Nat) : Nat → List Int32 → Int32 → List Int32 → Prop := fun p K o c => po2 g n p K o c ∧ ¬ zc g n p = 131
theorem zRank_7 (s : Int32) : zRank s ≤ 7 := by
  unfold zRank
  repeat' split
  all_goals decide
theorem stab_h (K : List Int32) : stab 100 K := fun s _ _ z => absurd (Int32.le_trans z (zRank_7 s)) (by decide)
theorem tok_f {I : xI} (h : 0 ≤ I 11 8) (w : Int32) : ¬ bAt w I = true := by rw [bAt_f h]; decide
theorem tok_c {g : Nat → Int32} {n t o : Nat} {w : Int32} (I : xI) (p : Nat) (cs : List Int32) (h : RC g n t I p cs o) : bAt w I = true ↔ zc g n p = w := by rw [RC_at h, decide_eq_true_eq]
theorem lev_stk1 {sub : xI → xI} (hK : STK sub) (t : Nat) (tok item : Int32) : STK (iLev sub t tok item) :=
  lev_stk hK (iLop sub t tok item) (fun I => bAt tok I = true) (fun _ => rfl) (fun j I h => if_neg h) (fun I h => tok_f h tok) 160
theorem sum_stk {sub : xI → xI} (hK : STK sub) (t : Nat) : STK (iSum sub t) :=
  lev_stk hK (iSop sub t) (fun I => bAt 43 I = true ∨ bAt 45 I = true) (fun _ => rfl) (fun j I h => if_neg h) (fun I h z => z.elim (tok_f h 43) (tok_f h 45)) 160
theorem sim_term {wd g : Nat → Int32} {n t : Nat} (hW : ∀ j, j < 96 → wd j = zWd j) (hB : ∀ j, j < n → ¬ g j < 0) (hn : n ≤ 160) (ht : 15 ≤ t) {sub : xI → xI} {o nd : Nat} (hS : SIM wd g n t sub 7 100 o nd po7 false) (hK : STK sub) : SIM wd g n t (iLev sub t 42 20006) 6 6 o (nd + 1) (po6 g n) false :=
  lev_sim hW hB hn ht hS hK (iLop sub t 42 20006) (fun I => bAt 42 I = true) (fun c => c = 42) (fun _ => 18) (fun _ => 20006) (fun _ => rfl) (fun j I h => if_pos h) (fun j I h => if_neg h) (fun I h => tok_f h 42) (fun I p cs h => tok_c I p cs h) (fun _ _ _ _ _ => by decide) (by decide) (by decide) (by decide) (fun c hc => by subst hc; decide) (by decide)
theorem sim_and {wd g : Nat → Int32} {n t : Nat} (hW : ∀ j, j < 96 → wd j = zWd j) (hB : ∀ j, j < n → ¬ g j < 0) (hn : n ≤ 160) (ht : 15 ≤ t) {sub : xI → xI} {o nd : Nat} (hS : SIM wd g n t sub 3 4 o nd (po3 g n) true) (hK : STK sub) : SIM wd g n t (iLev sub t 132 20001) 2 2 o (nd + 1) (po2 g n) true :=
  lev_sim hW hB hn ht hS hK (iLop sub t 132 20001) (fun I => bAt 132 I = true) (fun c => c = 132) (fun _ => 12) (fun _ => 20001) (fun _ => rfl) (fun j I h => if_pos h) (fun j I h => if_neg h) (fun I h => tok_f h 132) (fun I p cs h => tok_c I p cs h) (fun _ _ _ _ _ => by decide) (by decide) (by decide) (by decide) (fun c hc => by subst hc; decide) (by decide)
theorem sim_or {wd g : Nat → Int32} {n t : Nat} (hW : ∀ j, j < 96 → wd j = zWd j) (hB : ∀ j, j < n → ¬ g j < 0) (hn : n ≤ 160) (ht : 15 ≤ t) {sub : xI → xI} {o nd : Nat} (hS : SIM wd g n t sub 2 2 o nd (po2 g n) true) (hK : STK sub) : SIM wd g n t (iLev sub t 131 20000) 1 1 o (nd + 1) (po1 g n) true :=
  lev_sim hW hB hn ht hS hK (iLop sub t 131 20000) (fun I => bAt 131 I = true) (fun c => c = 131) (fun _ => 11) (fun _ => 20000) (fun _ => rfl) (fun j I h => if_pos h) (fun j I h => if_neg h) (fun I h => tok_f h 131) (fun I p cs h => tok_c I p cs h) (fun _ _ _ _ _ => by decide) (by decide) (by decide) (by decide) (fun c hc => by subst hc; decide) (by decide)
theorem sim_sum {wd g : Nat → Int32} {n t : Nat} (hW : ∀ j, j < 96 → wd j = zWd j) (hB : ∀ j, j < n → ¬ g j < 0) (hn : n ≤ 160) (ht : 15 ≤ t) {sub : xI → xI} {o nd : Nat} (hS : SIM wd g n t sub 6 6 o nd (po6 g n) false) (hK : STK sub) : SIM wd g n t (iSum sub t) 5 5 o (nd + 1) (po5 g n) false :=
  lev_sim hW hB hn ht hS hK (iSop sub t) (fun I => bAt 43 I = true ∨ bAt 45 I = true) (fun c => c = 43 ∨ c = 45) (fun c => if c = 43 then 16 else 17) (fun I => if I 11 5 = 43 then 20004 else 20005) (fun _ => rfl) (fun j I h => if_pos h) (fun j I h => if_neg h) (fun I h z => z.elim (tok_f h 43) (tok_f h 45)) (fun I p cs h => or_congr (tok_c I p cs h) (tok_c I p cs h)) (fun I p cs h hc => by
    have e : I 11 5 = zc g n p := h.2.1.2.2.1
    rw [e]
    rcases hc with z | z <;> rw [z] <;> decide) (by decide) (by decide) (by decide) (fun c hc => by rcases hc with rfl | rfl <;> decide) (by decide)
theorem iDec_8 (I : xI) : (iDec I) 11 8 = I 11 8 := xw_k _ _ _ (by decide)
theorem nI_5 {o : Nat} (ho : o ≤ 5) : (5 : Int32) ≤ nI o ↔ o = 5 := by
  rw [show (5 : Int32) = nI 5 from rfl, nI_leI (by decide) (by omega)]
  omega
theorem not_stk {nt sum : xI → xI} (hK : STK sum) (t : Nat) : STK (iNot nt sum t) := by
  intro I hI
  have h1 := hK I hI
  have h2 : 0 ≤ (sum I) 11 8 := by rw [h1]; exact hI
  rw [iNot, if_neg (tok_f hI 133), if_neg (fun z => z.elim (tok_f h2 60) (tok_f h2 61))]
  exact h1
theorem dpt_un {nd : Nat} {X : List Int32} {c : Int32} (h1 : tLeaf c = false) (h2 : tUn c = true) (hX : dpt nd X) : dpt nd (X ++ [c]) := by
  intro rest m hm
  rw [List.append_assoc, hX _ m hm]
  show tDep (c :: rest) (m + 1) = _
  rw [tDep, if_neg (by rw [h1]; decide), if_pos h2, decide_eq_true (show 1 ≤ m + 1 by omega)]
  rfl
theorem sim_not {wd g : Nat → Int32} {n t : Nat} (hW : ∀ j, j < 96 → wd j = zWd j) (hB : ∀ j, j < n → ¬ g j < 0) (hn : n ≤ 160) (ht : 15 ≤ t) {nt sum : xI → xI} {o nds ndn nd : Nat} (ho : o ≤ 5) (hS : SIM wd g n t sum 5 5 o nds (po5 g n) false) (hK : STK sum) (hN : o < 5 → SIM wd g n t nt 3 4 (o + 1) ndn (po3 g n) true) (h1 : nds + 1 ≤ nd) (h2 : o < 5 → ndn ≤ nd) : SIM wd g n t (iNot nt sum t) 3 4 o nd (po3 g n) true := by
  intro I p K cs y hrc hst hl hyk
  have hp := hrc.1.2.2
  have hbl := zBl_b g hp
  have hy : y = true := hyk
  subst hy
  by_cases hc : zc g n p = 133
  · have hq := zc_lt (g := g) (n := n) (p := p) (by rw [hc]; decide)
    have hx := vNx_b hB hn hq
    have htk : zTk wd g n (zBl g n p) = 6 := by rw [zLk_tok hW hB hn hp, hc]; rfl
    by_cases h5 : o = 5
    · have e : iNot nt sum t I = iFail I := by rw [iNot, if_pos ((tok_c I p cs hrc).mpr hc), hrc.2.2.1, if_pos ((nI_5 ho).mpr h5)]
      rw [e]
      refine Or.inr ⟨zBl g n p, RC_fail hrc, by omega, zNo_s hp (K1 := K) (o1 := nI o) (c1 := cs) ?_⟩
      rw [htk]
      unfold zStp
      rw [if_pos rfl, if_neg (by decide), if_pos ⟨rfl, rfl⟩, if_pos (by rw [h5]; rfl)]
    · have h5b : ¬ (5 : Int32) ≤ nI o := fun z => h5 ((nI_5 ho).mp z)
      have e : iNot nt sum t I = iAdd t 30000 (iDec (nt (iAdv (iInc I)))) := by rw [iNot, if_pos ((tok_c I p cs hrc).mpr hc), hrc.2.2.1, if_neg h5b]
      rw [e]
      have hgo : zGo wd g n p K (nI o) cs true true (vNx g n (zBl g n p)) (13 :: K) (nI (o + 1)) cs true true := by
        refine zGo_s hB hn hp hq ?_
        rw [htk]
        unfold zStp
        rw [if_pos rfl, if_neg (by decide), if_pos ⟨rfl, rfl⟩, if_neg (show ¬ nI o = 5 from fun z => h5 ((nI_eq (a := o) (b := 5) (by omega) (by decide)).mp z)), nI_1]
      have hadv := RC_adv hB hn ht (RC_inc ht hrc) hq
      rcases hN (by omega) _ _ (13 :: K) cs true hadv (stab_cons (by decide) K) (by rw [List.length_cons]; omega) (show yk true g n _ true from rfl) with ⟨p', X, K2, o2, cs2, y2, b1, b2, b3, b4, b5, b6, b7⟩ | ⟨f, b1, b2, b3⟩
      · rw [List.length_cons] at b7
        have hp' := b1.1.2.2
        have hadd := RC_add ht (RC_dec ht b1) (by omega) (c := 13) (v := 30000) (by decide)
        rw [List.append_assoc] at hadd
        refine Or.inl ⟨p', X ++ [13], K2, o2, cs2, y2, hadd, by omega, zGo_tr hgo b3, ?_, b5, dpt_un (by decide) (by decide) (dpt_mono (h2 (by omega)) b6), ?_⟩
        · rw [b4, zUn, if_pos (by decide), if_pos (Or.inl rfl), nI_pred, List.append_assoc]
        · rw [← List.append_assoc, List.length_append, List.length_singleton]; omega
      · exact Or.inr ⟨f, by rw [iAdd_11 ht, iDec_8]; exact b1, b2, zGo_no hgo hx.2 b3⟩
  · have hnb : ¬ bAt 133 I = true := fun z => hc ((tok_c I p cs hrc).mp z)
    rcases hS I p K cs true hrc (stab_mono (by decide) hst) hl (show yk false g n p true from fun _ => hc) with ⟨p', X, K2, o2, cs2, y2, b1, b2, b3, b4, b5, b6, b7⟩ | ⟨f, b1, b2, b3⟩
    · have hp' := b1.1.2.2
      have hbl' := zBl_b g hp'
      have hU5 : zUn 5 K2 o2 cs2 = (K, nI o, cs ++ X) := by rw [b4, zUn_st (stab_mono (by decide) hst)]
      by_cases hrel : zc g n p' = 60 ∨ zc g n p' = 61
      · have e : iNot nt sum t I = iAdd t (if (sum I) 11 5 = 60 then 20002 else 20003) (sum (iAdv (sum I))) := by rw [iNot, if_neg hnb, if_pos (hrel.elim (fun z => Or.inl ((tok_c _ p' _ b1).mpr z)) (fun z => Or.inr ((tok_c _ p' _ b1).mpr z)))]
        rw [e]
        obtain ⟨sg, q1, q2, q3, q4, q5, q6, q7, q8, q9, q10, q11⟩ : ∃ sg, zSg (tkOf (zc g n p')) = sg ∧ tCode sg = (if (sum I) 11 5 = 60 then 20002 else 20003) ∧ ¬ tkOf (zc g n p') = 59 ∧ ¬ tkOf (zc g n p') = 41 ∧ ¬ sg = -1 ∧ zRank sg = 4 ∧ ¬ (sg = 13 ∨ sg = 19) ∧ tLeaf sg = false ∧ tUn sg = false ∧ tBin sg = true ∧ decide (sg ≤ 12) = false := by
          have e5 : (sum I) 11 5 = zc g n p' := b1.2.1.2.2.1
          rw [e5]
          rcases hrel with z | z <;> rw [z]
          · exact ⟨14, by decide⟩
          · exact ⟨15, by decide⟩
        have hq := zc_lt (g := g) (n := n) (p := p') (by rcases hrel with z | z <;> rw [z] <;> decide)
        have hx := vNx_b hB hn hq
        have hgo : zGo wd g n p' K2 o2 cs2 false y2 (vNx g n (zBl g n p')) (sg :: K) (nI o) (cs ++ X) true false := by
          refine zGo_s hB hn hp' hq ?_
          rw [zLk_tok hW hB hn hp']
          have hr : zR0 sg = 5 := if_pos q6
          have hb : ¬ zBad sg K = true := by
            cases K with
            | nil => simp [zBad]
            | cons s1 K1 =>
              have h9 := hst s1 K1 rfl
              have h10 : ¬ zRank s1 = 4 := fun z => h9 (by rw [z]; exact Int32.le_refl _)
              simp [zBad, h10]
          unfold zStp
          rw [if_neg (by decide), if_neg q3, if_neg q4, q1, if_neg q5, hr, hU5, if_neg hb, q11]
        have hadv := RC_adv hB hn ht b1 hq
        rcases hS _ _ (sg :: K) (cs ++ X) false hadv (stab_cons (by rw [q6]; decide) K) (by rw [List.length_cons]; omega) (show yk false g n _ false from fun z => absurd z (by decide)) with ⟨p2, X2, K3, o3, cs3, y3, d1, d2, d3, d4, d5, d6, d7⟩ | ⟨f, d1, d2, d3⟩
        · rw [List.length_cons] at d7
          have hp2 := d1.1.2.2
          have hadd := RC_add ht d1 (by omega) q2
          have ea : cs ++ X ++ X2 ++ [sg] = cs ++ (X ++ (X2 ++ [sg])) := by simp only [List.append_assoc]
          rw [ea] at hadd
          have h5s : ¬ (5 : Int32) ≤ zRank sg := by rw [q6]; decide
          have hU : zUn 5 K3 o3 cs3 = (sg :: K, nI o, cs ++ X ++ X2) := by rw [d4, zUn_st (stab_cons h5s K)]
          refine Or.inl ⟨p2, X ++ (X2 ++ [sg]), K3, o3, cs3, y3, hadd, by omega, zGo_tr b3 (zGo_tr hgo d3), ?_, ⟨d5, fun _ => ⟨sg, K, _, _, hU, q6⟩⟩, dpt_mono h1 (dpt_bin q8 q9 q10 (dpt_mono (by omega) b6) d6), ?_⟩
          · rw [← zUn_cp (show (3 : Int32) ≤ 5 by decide) K3 o3 cs3, hU, zUn, if_pos (by rw [q6]; decide), if_neg q7, Int32.sub_zero, ea]
          · rw [← ea, List.length_append, List.length_singleton]; omega
        · exact Or.inr ⟨f, by rw [iAdd_11 ht]; exact d1, d2, zGo_no b3 hp' (zGo_no hgo hx.2 d3)⟩
      · have e : iNot nt sum t I = sum I := by rw [iNot, if_neg hnb, if_neg (fun z => hrel (z.elim (fun y => Or.inl ((tok_c _ p' _ b1).mp y)) (fun y => Or.inr ((tok_c _ p' _ b1).mp y))))]
        rw [e]
        refine Or.inl ⟨p', X, K2, o2, cs2, y2, b1, b2, b3, ?_, ⟨b5, fun z => absurd z hrel⟩, dpt_mono (by omega) b6, b7⟩
        rw [← zUn_cp (show (3 : Int32) ≤ 5 by decide) K2 o2 cs2, b4, zUn_cp (show (3 : Int32) ≤ 5 by decide)]
    · have h0 : 0 ≤ (sum I) 11 8 := by rw [b1]; exact Int32.not_lt.mp (nI_pos (by omega))
      have e : iNot nt sum t I = sum I := by rw [iNot, if_neg hnb, if_neg (fun z => z.elim (tok_f h0 60) (tok_f h0 61))]
      rw [e]
      exact Or.inr ⟨f, b1, b2, b3⟩
