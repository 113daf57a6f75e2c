theorem iExp_f {w : Int32} {I : xI} (h : 0 ≤ I 11 8) : (iExp w I) 11 8 = I 11 8 := by
  have e : (iTok w I) 11 8 = I 11 8 := by
    unfold iTok
    split
    · rfl
    · rw [iFail, xw_s, rFail, if_pos h]
  rw [iExp, if_pos (by rw [e]; exact h)]
  exact e
theorem iExp_y {g : Nat → Int32} {n t : Nat} {I : xI} {p : Nat} {cs : List Int32} {o : Nat} (h : RC g n t I p cs o) {w : Int32} (hw : zc g n p = w) : iExp w I = iAdv I := by
  have e5 : I 11 5 = w := h.2.1.2.2.1.trans hw
  have e : iTok w I = I := if_pos e5
  rw [iExp, e, if_neg (RC_ok h)]
theorem iExp_n {g : Nat → Int32} {n t : Nat} {I : xI} {p : Nat} {cs : List Int32} {o : Nat} (hn : n ≤ 160) (h : RC g n t I p cs o) {w : Int32} (hw : ¬ zc g n p = w) : (iExp w I) 11 8 = nI (zBl g n p) := by
  have e5 : ¬ I 11 5 = w := fun z => hw (h.2.1.2.2.1.symm.trans z)
  have e : iTok w I = iFail I := if_neg e5
  have hbl := (zBl_b g h.1.2.2).2
  rw [iExp, e, RC_fail h, if_pos (show (0 : Int32) ≤ nI (zBl g n p) from Int32.not_lt.mp (nI_pos (by omega)))]
  exact RC_fail h
theorem end_no {wd g : Nat → Int32} {n t : Nat} (hW : ∀ j, j < 96 → wd j = zWd j) (hB : ∀ j, j < n → ¬ g j < 0) (hn : n ≤ 160) (ht : 15 ≤ t) {p : Nat} (hp : p ≤ n) {K2 : List Int32} {o2 : Int32} {cs2 : List Int32} (hpo : po1 g n p K2 o2 cs2) {K1 : List Int32} {o1 : Int32} {c1 : List Int32} (hU : zUn 1 K2 o2 cs2 = (K1, o1, c1)) (h59 : K1 = [] → ¬ zc g n p = 59) (h41 : ¬ K1 = [] → ¬ zc g n p = 41) (y : Bool) : zNo wd g n p K2 o2 cs2 false y (zBl g n p) := by
  have key : ∃ Kx ox cx, zStp (zTk wd g n (zBl g n p)) (zVa wd g n (zBl g n p)) K2 o2 cs2 false y = .inl (false, Kx, ox, cx) := by
    rw [zLk_tok (wd := wd) hW hB hn hp]
    have n131 := hpo.2
    have n132 := hpo.1.2
    have hrel := hpo.1.1.2
    have n43 := hpo.1.1.1.2
    have n42 := hpo.1.1.1.1.2
    generalize zVa wd g n (zBl g n p) = va
    have hr : zc g n p = -1 ∨ zc g n p = 0 ∨ zc g n p = 1 ∨ zc g n p = 40 ∨ zc g n p = 41 ∨ zc g n p = 59 ∨ zc g n p = 43 ∨ zc g n p = 45 ∨ zc g n p = 42 ∨ zc g n p = 60 ∨ zc g n p = 61 ∨ zc g n p = 128 ∨ zc g n p = 129 ∨ zc g n p = 130 ∨ zc g n p = 131 ∨ zc g n p = 132 ∨ zc g n p = 133 ∨ zc g n p = 134 ∨ zc g n p = 135 ∨ zc g n p = 136 ∨ zc g n p = 137 ∨ zc g n p = 138 ∨ zc g n p = 139 := vTk_rng g n (zBl g n p)
    generalize zc g n p = c at *
    have hs1 : ∀ {c : Int32}, ¬ tkOf c = 59 → ¬ tkOf c = 41 → zSg (tkOf c) = -1 → ∃ Kx ox cx, zStp (tkOf c) va K2 o2 cs2 false y = .inl (false, Kx, ox, cx) := by
      intro c a b d
      refine ⟨K2, o2, cs2, ?_⟩
      unfold zStp
      rw [if_neg (by decide), if_neg a, if_neg b, if_pos d]
    have hs4 : ∀ {c sg : Int32}, (c = 60 ∨ c = 61) → ¬ tkOf c = 59 → ¬ tkOf c = 41 → zSg (tkOf c) = sg → ¬ sg = -1 → zRank sg = 4 → ((c = 60 ∨ c = 61) → ∃ t1 K3 o3 c3, zUn 5 K2 o2 cs2 = (t1 :: K3, o3, c3) ∧ zRank t1 = 4) → ∃ Kx ox cx, zStp (tkOf c) va K2 o2 cs2 false y = .inl (false, Kx, ox, cx) := by
      intro c sg hc a b d e f hh
      obtain ⟨t1, K3, o3, c3, hU5, ht1⟩ := hh hc
      refine ⟨t1 :: K3, o3, c3, ?_⟩
      have hr0 : zR0 sg = 5 := if_pos f
      have hbd : zBad sg (t1 :: K3) = true := by simp [zBad, f, ht1]
      unfold zStp
      rw [if_neg (by decide), if_neg a, if_neg b, d, if_neg e, hr0, hU5, if_pos hbd]
    have hr2 : c = -1 ∨ c = 0 ∨ c = 1 ∨ c = 40 ∨ c = 41 ∨ c = 59 ∨ c = 43 ∨ c = 45 ∨ c = 42 ∨ c = 60 ∨ c = 61 ∨ c = 128 ∨ c = 129 ∨ c = 130 ∨ c = 131 ∨ c = 132 ∨ c = 133 ∨ c = 134 ∨ c = 135 ∨ c = 136 ∨ c = 137 ∨ c = 138 ∨ c = 139 := hr
    rcases hr2 with rfl | rfl | rfl | rfl | rfl | rfl | rfl | rfl | rfl | rfl | rfl | rfl | rfl | rfl | rfl | rfl | rfl | rfl | rfl | rfl | rfl | rfl | rfl
    · exact hs1 (by decide) (by decide) (by decide)
    · exact hs1 (by decide) (by decide) (by decide)
    · exact hs1 (by decide) (by decide) (by decide)
    · exact hs1 (by decide) (by decide) (by decide)
    · cases K1 with
      | nil =>
        refine ⟨[], o1, c1, ?_⟩
        unfold zStp
        rw [if_neg (by decide), if_neg (by decide), if_pos (by decide), hU]
      | cons s1 K1 => exact absurd rfl (h41 (by simp))
    · cases K1 with
      | nil => exact absurd rfl (h59 rfl)
      | cons s1 K1 =>
        refine ⟨s1 :: K1, o1, c1, ?_⟩
        unfold zStp
        rw [if_neg (by decide), if_pos (by decide), hU, decide_eq_false (by simp)]
    · exact absurd (by decide) n43
    · exact absurd (by decide) n43
    · exact absurd rfl n42
    · exact hs4 (sg := 14) (by decide) (by decide) (by decide) (by decide) (by decide) (by decide) hrel
    · exact hs4 (sg := 15) (by decide) (by decide) (by decide) (by decide) (by decide) (by decide) hrel
    · exact hs1 (by decide) (by decide) (by decide)
    · exact hs1 (by decide) (by decide) (by decide)
    · exact hs1 (by decide) (by decide) (by decide)
    · exact absurd rfl n131
    · exact absurd rfl n132
    · exact hs1 (by decide) (by decide) (by decide)
    · exact hs1 (by decide) (by decide) (by decide)
    · exact hs1 (by decide) (by decide) (by decide)
    · exact hs1 (by decide) (by decide) (by decide)
    · exact hs1 (by decide) (by decide) (by decide)
    · exact hs1 (by decide) (by decide) (by decide)
    · exact hs1 (by decide) (by decide) (by decide)
  obtain ⟨Kx, ox, cx, e⟩ := key
  exact zNo_s hp e
theorem zUn_id (K : List Int32) (o : Int32) (cs : List Int32) : zUn 7 (zUn 7 K o cs).1 (zUn 7 K o cs).2.1 (zUn 7 K o cs).2.2 = zUn 7 K o cs := zUn_cp (Int32.le_refl _) K o cs
theorem one_leaf {wd g : Nat → Int32} {n t : Nat} (hW : ∀ j, j < 96 → wd j = zWd j) (hB : ∀ j, j < n → ¬ g j < 0) (hn : n ≤ 160) (ht : 15 ≤ t) {I : xI} {p : Nat} {K cs : List Int32} {o nd : Nat} {y : Bool} (hrc : RC g n t I p cs o) (hl : K.length + cs.length ≤ p) (h0 : ¬ zc g n p = 0) {cd v : Int32} (hv : tCode cd = v) (hlf : tLeaf cd = true) (hnd : 1 ≤ nd) (hst : zStp (zTk wd g n (zBl g n p)) (zVa wd g n (zBl g n p)) K (nI o) cs true y = .inr ((zUn 7 K (nI o) (cs ++ [cd])).1, (zUn 7 K (nI o) (cs ++ [cd])).2.1, (zUn 7 K (nI o) (cs ++ [cd])).2.2, false, y)) : RES wd g n t (iAdv (iAdd t v I)) 7 o nd po7 p K cs y := by
  have hp := hrc.1.2.2
  have hq := zc_lt h0
  have hx := vNx_b hB hn hq
  have hbl := zBl_b g hp
  have hadv := RC_adv hB hn ht (RC_add ht hrc (by omega) hv) hq
  refine Or.inl ⟨_, [cd], _, _, _, y, hadv, by omega, zGo_s hB hn hp hq hst, zUn_id _ _ _, trivial, ?_, ?_⟩
  · intro rest m hm
    show tDep (cd :: rest) m = _
    rw [tDep, if_pos hlf, decide_eq_true (show m < 40 by omega)]
    rfl
  · rw [List.length_append, List.length_singleton]; omega
theorem tCode_num {V : Nat} (h : V < 10000) : tCode (100000 + nI V) = nI V ∧ tLeaf (100000 + nI V) = true := by
  have e : (100000 : Int32) + nI V = nI (100000 + V) := nI_add 100000 V
  rw [e]
  have h1 : ¬ nI (100000 + V) < 11 := fun z => absurd ((nI_ltI (b := 11) (by omega) (by decide)).mp z) (by omega)
  have h2 : (100000 : Int32) ≤ nI (100000 + V) := (nI_leI (a := 100000) (by decide) (by omega)).mpr (by omega)
  have h3 : nI (100000 + V) < 110000 := (nI_ltI (b := 110000) (by omega) (by decide)).mpr (by omega)
  constructor
  · rw [tCode, if_neg h1, if_pos h2, show nI (100000 + V) - 100000 = nI (100000 + V - 100000) from pk_sub (b := 100000) (by omega), Nat.add_sub_cancel_left]
  · rw [tLeaf, decide_eq_true h2, decide_eq_true h3]
    simp
theorem sim_one {wd g : Nat → Int32} {n t : Nat} (hW : ∀ j, j < 96 → wd j = zWd j) (hB : ∀ j, j < n → ¬ g j < 0) (hn : n ≤ 160) (ht : 15 ≤ t) {one orr : xI → xI} {o nd1 ndr nd : Nat} (ho : o ≤ 5) (hO : o < 5 → SIM wd g n t one 7 100 (o + 1) nd1 po7 false) (hR : o < 5 → SIM wd g n t orr 1 1 (o + 1) ndr (po1 g n) true) (h1 : 1 ≤ nd) (h2 : o < 5 → nd1 ≤ nd ∧ ndr ≤ nd) : SIM wd g n t (iOne one orr t) 7 100 o nd po7 false := by
  intro I p K cs y hrc hst hl hyk
  have hp := hrc.1.2.2
  have hbl := zBl_b g hp
  have hlx := lex_all wd g n (zBl g n p) hW hB hn hbl.2
  have e5 : I 11 5 = zc g n p := hrc.2.1.2.2.1
  have hy : y = true → ¬ zc g n p = 133 := hyk
  have htk : zTk wd g n (zBl g n p) = tkOf (zc g n p) := hlx.1
  have hbad : ∀ {c : Int32}, zc g n p = c → (¬ tkOf c = 1 ∧ ¬ tkOf c = 2 ∧ ¬ tkOf c = 45 ∧ ¬ tkOf c = 40 ∧ (tkOf c = 6 → c = 133)) → ¬ c = 1 ∧ ¬ (134 ≤ c ∧ c ≤ 139) ∧ ¬ c = 45 ∧ ¬ c = 40 → RES wd g n t (iOne one orr t I) 7 o nd po7 p K cs y := by
    intro c hc ⟨a1, a2, a3, a4, a6⟩ ⟨b1, b2, b3, b4⟩
    have e : iOne one orr t I = iFail I := by rw [iOne, if_neg (RC_ok hrc), e5, hc, if_neg b1, if_neg b2, if_neg b3, if_neg b4]
    rw [e]
    refine Or.inr ⟨zBl g n p, RC_fail hrc, by omega, zNo_s hp (K1 := K) (o1 := nI o) (c1 := cs) ?_⟩
    rw [htk, hc]
    unfold zStp
    rw [if_pos rfl, if_neg (fun z => z.elim a1 a2), if_neg (fun z => hy z.2 (hc.trans (a6 z.1))), if_neg a3, if_neg a4]
  have hnam : ∀ {c : Int32}, zc g n p = c → (134 ≤ c ∧ c ≤ 139) → ¬ c = 1 → tkOf c = 2 → tCode (c - 134) = 10000 + c - 134 → tLeaf (c - 134) = true → ¬ c = 0 → RES wd g n t (iOne one orr t I) 7 o nd po7 p K cs y := by
    intro c hc b2 b1 a2 d1 d2 d3
    have e : iOne one orr t I = iAdv (iAdd t (10000 + c - 134) I) := by rw [iOne, if_neg (RC_ok hrc), e5, hc, if_neg b1, if_pos b2]
    rw [e]
    refine one_leaf hW hB hn ht hrc hl (by rw [hc]; exact d3) d1 d2 h1 ?_
    have hva : zVa wd g n (zBl g n p) = c - 134 := by
      have := hlx.2.1.2
      rw [show vTk g n (zBl g n p) = c from hc] at this
      exact this b2.1 b2.2
    have hcd : zCd 2 (c - 134) = c - 134 := if_neg (by decide)
    rw [htk, hc, a2, hva]
    unfold zStp
    rw [if_pos rfl, if_pos (Or.inr rfl), hcd]
  have hr : zc g n p = -1 ∨ zc g n p = 0 ∨ zc g n p = 1 ∨ zc g n p = 40 ∨ zc g n p = 41 ∨ zc g n p = 59 ∨ zc g n p = 43 ∨ zc g n p = 45 ∨ zc g n p = 42 ∨ zc g n p = 60 ∨ zc g n p = 61 ∨ zc g n p = 128 ∨ zc g n p = 129 ∨ zc g n p = 130 ∨ zc g n p = 131 ∨ zc g n p = 132 ∨ zc g n p = 133 ∨ zc g n p = 134 ∨ zc g n p = 135 ∨ zc g n p = 136 ∨ zc g n p = 137 ∨ zc g n p = 138 ∨ zc g n p = 139 := vTk_rng g n (zBl g n p)
  rcases hr with h | h | h | h | h | h | h | h | h | h | h | h | h | h | h | h | h | h | h | h | h | h | h
  · exact hbad h (by decide) (by decide)
  · exact hbad h (by decide) (by decide)
  · obtain ⟨V, hV, hva, hnu⟩ := hlx.2.2 h
    obtain ⟨nu, h6⟩ := hrc.2.1.2.2.2
    have e : iOne one orr t I = iAdv (iAdd t (nI V) I) := by rw [iOne, if_neg (RC_ok hrc), e5, h, if_pos rfl, h6, hnu]
    rw [e]
    obtain ⟨q1, q2⟩ := tCode_num hV
    refine one_leaf hW hB hn ht hrc hl (by rw [h]; decide) q1 q2 h1 ?_
    have hcd : zCd 1 (nI V) = 100000 + nI V := if_pos rfl
    rw [htk, h, hva, show tkOf 1 = 1 from rfl]
    unfold zStp
    rw [if_pos rfl, if_pos (Or.inl rfl), hcd]
  · have hq := zc_lt (g := g) (n := n) (p := p) (by rw [h]; decide)
    have hx := vNx_b hB hn hq
    have htk2 : zTk wd g n (zBl g n p) = 40 := by rw [htk, h]; rfl
    by_cases h5 : o = 5
    · have e : iOne one orr t I = iFail I := by rw [iOne, if_neg (RC_ok hrc), e5, h, if_neg (by decide), if_neg (by decide), if_neg (by decide), if_pos rfl, hrc.2.2.1, if_pos ((nI_5 ho).mpr h5)]
      rw [e]
      refine Or.inr ⟨zBl g n p, RC_fail hrc, by omega, zNo_s hp (K1 := K) (o1 := nI o) (c1 := cs) ?_⟩
      rw [htk2]
      unfold zStp
      rw [if_pos rfl, if_neg (by decide), if_neg (fun z => absurd z.1 (by decide)), if_neg (by decide), if_pos rfl, if_pos (show nI o = 5 by rw [h5]; rfl)]
    · have e : iOne one orr t I = iExp 41 (iDec (orr (iAdv (iInc I)))) := by rw [iOne, if_neg (RC_ok hrc), e5, h, if_neg (by decide), if_neg (by decide), if_neg (by decide), if_pos rfl, hrc.2.2.1, if_neg (show ¬ (5 : Int32) ≤ nI o from fun z => h5 ((nI_5 ho).mp z))]
      rw [e]
      have hgo : zGo wd g n p K (nI o) cs true y (vNx g n (zBl g n p)) (0 :: K) (nI (o + 1)) cs true true := by
        refine zGo_s hB hn hp hq ?_
        rw [htk2]
        unfold zStp
        rw [if_pos rfl, if_neg (by decide), if_neg (fun z => absurd z.1 (by decide)), if_neg (by decide), if_pos rfl, if_neg (show ¬ nI o = 5 from fun z => h5 ((nI_eq (a := o) (b := 5) (by omega) (by decide)).mp z)), nI_1]
      have hadv := RC_adv hB hn ht (RC_inc ht hrc) hq
      rcases hR (by omega) _ _ (0 :: K) cs true hadv (stab_cons (by decide) K) (by rw [List.length_cons]; omega) (show yk true g n _ true from rfl) with ⟨p', X, K2, o2, cs2, y2, b1, b2, b3, b4, b5, b6, b7⟩ | ⟨f, b1, b2, b3⟩
      · rw [List.length_cons] at b7
        have hp' := b1.1.2.2
        have hdec := RC_dec ht b1
        have hU : zUn 1 K2 o2 cs2 = (0 :: K, nI (o + 1), cs ++ X) := by rw [b4, zUn_st (stab_cons (by decide) K)]
        by_cases h41 : zc g n p' = 41
        · rw [iExp_y hdec h41]
          have hq2 := zc_lt (g := g) (n := n) (p := p') (by rw [h41]; decide)
          have hx2 := vNx_b hB hn hq2
          have hbl2 := zBl_b g hp'
          have hgo2 : zGo wd g n p' K2 o2 cs2 false y2 (vNx g n (zBl g n p')) (zUn 7 K (nI o) (cs ++ X)).1 (zUn 7 K (nI o) (cs ++ X)).2.1 (zUn 7 K (nI o) (cs ++ X)).2.2 false y2 := by
            refine zGo_s hB hn hp' hq2 ?_
            rw [zLk_tok hW hB hn hp', h41, show tkOf 41 = 41 from rfl]
            unfold zStp
            rw [if_neg (by decide), if_neg (by decide), if_pos rfl, hU]
            simp only [nI_pred]
          refine Or.inl ⟨_, X, _, _, _, y2, RC_adv hB hn ht hdec hq2, by omega, zGo_tr hgo (zGo_tr b3 hgo2), zUn_id _ _ _, trivial, dpt_mono (h2 (by omega)).2 b6, by omega⟩
        · have hf := iExp_n hn hdec h41
          have hbl2 := zBl_b g hp'
          exact Or.inr ⟨zBl g n p', hf, by omega, zGo_no hgo hx.2 (zGo_no b3 hp' (end_no hW hB hn ht hp' b5 hU (fun z => by cases z) (fun _ => h41) y2))⟩
      · have h0 : 0 ≤ (iDec (orr (iAdv (iInc I)))) 11 8 := by rw [iDec_8, b1]; exact Int32.not_lt.mp (nI_pos (by omega))
        exact Or.inr ⟨f, by rw [iExp_f h0, iDec_8]; exact b1, b2, zGo_no hgo hx.2 b3⟩
  · exact hbad h (by decide) (by decide)
  · exact hbad h (by decide) (by decide)
  · exact hbad h (by decide) (by decide)
  · have hq := zc_lt (g := g) (n := n) (p := p) (by rw [h]; decide)
    have hx := vNx_b hB hn hq
    have htk2 : zTk wd g n (zBl g n p) = 45 := by rw [htk, h]; rfl
    by_cases h5 : o = 5
    · have e : iOne one orr t I = iFail I := by rw [iOne, if_neg (RC_ok hrc), e5, h, if_neg (by decide), if_neg (by decide), if_pos rfl, hrc.2.2.1, if_pos ((nI_5 ho).mpr h5)]
      rw [e]
      refine Or.inr ⟨zBl g n p, RC_fail hrc, by omega, zNo_s hp (K1 := K) (o1 := nI o) (c1 := cs) ?_⟩
      rw [htk2]
      unfold zStp
      rw [if_pos rfl, if_neg (by decide), if_neg (fun z => absurd z.1 (by decide)), if_pos rfl, if_pos (show nI o = 5 by rw [h5]; rfl)]
    · have e : iOne one orr t I = iAdd t 30001 (iDec (one (iAdv (iInc I)))) := by rw [iOne, if_neg (RC_ok hrc), e5, h, if_neg (by decide), if_neg (by decide), if_pos rfl, hrc.2.2.1, if_neg (show ¬ (5 : Int32) ≤ nI o from fun z => h5 ((nI_5 ho).mp z))]
      rw [e]
      have hgo : zGo wd g n p K (nI o) cs true y (vNx g n (zBl g n p)) (19 :: K) (nI (o + 1)) cs true false := by
        refine zGo_s hB hn hp hq ?_
        rw [htk2]
        unfold zStp
        rw [if_pos rfl, if_neg (by decide), if_neg (fun z => absurd z.1 (by decide)), if_pos rfl, if_neg (show ¬ nI o = 5 from fun z => h5 ((nI_eq (a := o) (b := 5) (by omega) (by decide)).mp z)), nI_1]
      have hadv := RC_adv hB hn ht (RC_inc ht hrc) hq
      rcases hO (by omega) _ _ (19 :: K) cs false hadv (stab_h _) (by rw [List.length_cons]; omega) (show yk false g n _ false from fun z => absurd z (by decide)) with ⟨p', X, K2, o2, cs2, y2, b1, b2, b3, b4, b5, b6, b7⟩ | ⟨f, b1, b2, b3⟩
      · rw [List.length_cons] at b7
        have hp' := b1.1.2.2
        have hadd := RC_add ht (RC_dec ht b1) (by omega) (c := 19) (v := 30001) (by decide)
        rw [List.append_assoc] at hadd
        refine Or.inl ⟨p', X ++ [19], K2, o2, cs2, y2, hadd, by omega, zGo_tr hgo b3, ?_, trivial, dpt_un (by decide) (by decide) (dpt_mono (h2 (by omega)).1 b6), ?_⟩
        · rw [b4, zUn, if_pos (by decide), if_pos (Or.inr rfl), nI_pred, List.append_assoc]
        · rw [← List.append_assoc, List.length_append, List.length_singleton]; omega
      · exact Or.inr ⟨f, by rw [iAdd_11 ht, iDec_8]; exact b1, b2, zGo_no hgo hx.2 b3⟩
  · exact hbad h (by decide) (by decide)
  · exact hbad h (by decide) (by decide)
  · exact hbad h (by decide) (by decide)
  · exact hbad h (by decide) (by decide)
  · exact hbad h (by decide) (by decide)
  · exact hbad h (by decide) (by decide)
  · exact hbad h (by decide) (by decide)
  · exact hbad h (by decide) (by decide)
  · exact hbad h (by decide) (by decide)
  · exact hnam h (by decide) (by decide) (by decide) (by decide) (by decide) (by decide)
  · exact hnam h (by decide) (by decide) (by decide) (by decide) (by decide) (by decide)
  · exact hnam h (by decide) (by decide) (by decide) (by decide) (by decide) (by decide)
  · exact hnam h (by decide) (by decide) (by decide) (by decide) (by decide) (by decide)
  · exact hnam h (by decide) (by decide) (by decide) (by decide) (by decide) (by decide)
  · exact hnam h (by decide) (by decide) (by decide) (by decide) (by decide) (by decide)
theorem one_stk (one orr : xI → xI) (t : Nat) : STK (iOne one orr t) := fun I hI => by rw [iOne, if_pos hI]
theorem lv_sim {wd g : Nat → Int32} {n t : Nat} (hW : ∀ j, j < 96 → wd j = zWd j) (hB : ∀ j, j < n → ¬ g j < 0) (hn : n ≤ 160) (ht : 15 ≤ t) : ∀ (k o : Nat), o + k = 5 → (SIM wd g n t (iLv t k).1 7 100 o (1 + 5 * k) po7 false ∧ STK (iLv t k).1) ∧ SIM wd g n t (iLv t k).2 3 4 o (4 + 5 * k) (po3 g n) true ∧ STK (iLv t k).2
  | 0, o, ho => by
    have s1 : SIM wd g n t (iOne id id t) 7 100 o 1 po7 false := sim_one hW hB hn ht (by omega) (nd1 := 0) (ndr := 0) (fun z => absurd z (by omega)) (fun z => absurd z (by omega)) (Nat.le_refl _) (fun z => absurd z (by omega))
    have k1 := one_stk id id t
    have s2 := sim_term hW hB hn ht s1 k1
    have k2 := lev_stk1 k1 t 42 20006
    have s3 := sim_sum hW hB hn ht s2 k2
    have k3 := sum_stk k2 t
    exact ⟨⟨s1, k1⟩, sim_not hW hB hn ht (by omega) (ndn := 0) s3 k3 (fun z => absurd z (by omega)) (by omega) (fun z => absurd z (by omega)), not_stk k3 t⟩
  | k + 1, o, ho => by
    obtain ⟨⟨a1, a2⟩, b1, b2⟩ := lv_sim hW hB hn ht k (o + 1) (by omega)
    have r1 := sim_or hW hB hn ht (sim_and hW hB hn ht b1 b2) (lev_stk1 b2 t 132 20001)
    have s1 : SIM wd g n t (iOne (iLv t k).1 (iOr (iLv t k).2 t) t) 7 100 o (1 + 5 * (k + 1)) po7 false := sim_one hW hB hn ht (by omega) (fun _ => a1) (fun _ => r1) (by omega) (fun _ => ⟨by omega, by omega⟩)
    have k1 := one_stk (iLv t k).1 (iOr (iLv t k).2 t) t
    have s2 := sim_term hW hB hn ht s1 k1
    have k2 := lev_stk1 k1 t 42 20006
    have s3 := sim_sum hW hB hn ht s2 k2
    have k3 := sum_stk k2 t
    exact ⟨⟨s1, k1⟩, sim_not hW hB hn ht (by omega) s3 k3 (fun _ => b1) (by omega) (fun _ => by omega), not_stk k3 t⟩
theorem e_sim {wd g : Nat → Int32} {n t : Nat} (hW : ∀ j, j < 96 → wd j = zWd j) (hB : ∀ j, j < n → ¬ g j < 0) (hn : n ≤ 160) (ht : 15 ≤ t) : SIM wd g n t (iE t) 1 1 0 31 (po1 g n) true ∧ STK (iE t) := by
  obtain ⟨-, b1, b2⟩ := lv_sim (wd := wd) hW hB hn ht 5 0 rfl
  exact ⟨sim_or hW hB hn ht (sim_and hW hB hn ht b1 b2) (lev_stk1 b2 t 132 20001), lev_stk1 (lev_stk1 b2 t 132 20001) t 131 20000⟩
