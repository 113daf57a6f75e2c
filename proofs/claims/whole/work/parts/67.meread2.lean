theorem zTk_0 {wd g : Nat → Int32} {n q : Nat} (h : n ≤ q) : zTk wd g n q = 0 := if_pos h
theorem vNx_b {g : Nat → Int32} {n q : Nat} (hB : ∀ j, j < n → ¬ g j < 0) (hn : n ≤ 160) (h : q < n) : q < vNx g n q ∧ vNx g n q ≤ n := by
  have hb : rB g n q = g q := if_pos h
  unfold vNx
  rw [hb, if_neg (hB q h)]
  by_cases h1 : bLetter (g q) = true
  · rw [if_pos h1, show (160 : Nat) = 159 + 1 from rfl, zRn_y h h1]
    have := zRn_b (Q := bLetter) (g := g) (n := n) (by decide) 159 (q + 1) h
    omega
  · rw [if_neg h1]
    by_cases h2 : bDigit (g q) = true
    · rw [if_pos h2, show (160 : Nat) = 159 + 1 from rfl, zRn_y h h2]
      have := zRn_b (Q := bDigit) (g := g) (n := n) (by decide) 159 (q + 1) h
      omega
    · rw [if_neg h2]
      omega
theorem zBl_b (g : Nat → Int32) {n p : Nat} (h : p ≤ n) : p ≤ zBl g n p ∧ zBl g n p ≤ n := zRn_b (by decide) 160 p h
theorem zRun_i {wd g : Nat → Int32} {n f p : Nat} {K : List Int32} {o : Int32} {cs : List Int32} {w y : Bool} {b : Bool} {K1 : List Int32} {o1 : Int32} {c1 : List Int32} (h : zStp (zTk wd g n (zBl g n p)) (zVa wd g n (zBl g n p)) K o cs w y = .inl (b, K1, o1, c1)) : zRun wd g n (f + 1) p K o cs w y = (b, p, K1, o1, c1) := by rw [zRun, h]
theorem zRun_r {wd g : Nat → Int32} {n f p : Nat} {K : List Int32} {o : Int32} {cs : List Int32} {w y : Bool} {K1 : List Int32} {o1 : Int32} {c1 : List Int32} {w1 y1 : Bool} (h : zStp (zTk wd g n (zBl g n p)) (zVa wd g n (zBl g n p)) K o cs w y = .inr (K1, o1, c1, w1, y1)) : zRun wd g n (f + 1) p K o cs w y = zRun wd g n f (vNx g n (zBl g n p)) K1 o1 c1 w1 y1 := by rw [zRun, h]
theorem eRead_loop (l : Launch) (G : xG) {d : Nat} (nn : Nat) (hd : 4 ≤ d) (I : xI) (tc : Nat) (h8 : I 59 8 = nI tc) (htc : tc < 6) (n : Nat) (h5 : I 59 5 = nI n) (hn : n ≤ 160) (hB : ∀ j, j < n → ¬ I 63 j < 0) : ∀ (f p : Nat) (K : List Int32) (o : Int32) (cs : List Int32) (w y : Bool) (b t v : Int32) (H : Nat → Int32), tSt H K → K.length + cs.length ≤ p → p ≤ n → n < p + f → Qe l G d nn I tc n (zRun (I 71) (I 63) n f p K o cs w y) p K o cs w y b t v H
  | 0, p, K, o, cs, w, y, b, t, v, H, hH, hl, hp, hf => absurd hf (by omega)
  | f + 1, p, K, o, cs, w, y, b, t, v, H, hH, hl, hp, hf => by
    have hbl := zBl_b (I 63) hp
    have ih := eRead_loop l G nn hd I tc h8 htc n h5 hn hB f (vNx (I 63) n (zBl (I 63) n p))
    have hlt : ∀ {k : Int32}, ¬ k = 0 → zTk (I 71) (I 63) n (zBl (I 63) n p) = k → zBl (I 63) n p < n := fun {k} hk e => Nat.lt_of_not_le (fun z => hk (e.symm.trans (zTk_0 z)))
    have hnx : zBl (I 63) n p < n → p + 1 ≤ vNx (I 63) n (zBl (I 63) n p) ∧ vNx (I 63) n (zBl (I 63) n p) ≤ n := fun z => by have := vNx_b hB hn z; omega
    have hz : zStp (zTk (I 71) (I 63) n (zBl (I 63) n p)) (zVa (I 71) (I 63) n (zBl (I 63) n p)) K o cs w y = zStp (zTk (I 71) (I 63) n (zBl (I 63) n p)) (zVa (I 71) (I 63) n (zBl (I 63) n p)) K o cs w y := rfl
    cases w with
    | true =>
      by_cases h1 : zTk (I 71) (I 63) n (zBl (I 63) n p) = 1
      ·
        have hcd : zCd (zTk (I 71) (I 63) n (zBl (I 63) n p)) (zVa (I 71) (I 63) n (zBl (I 63) n p)) = 100000 + (zVa (I 71) (I 63) n (zBl (I 63) n p)) := if_pos h1
        have hq := hlt (by decide) h1
        have hx := hnx hq
        rw [zRun_r (K1 := (zUn 7 K o (cs ++ [100000 + (zVa (I 71) (I 63) n (zBl (I 63) n p))])).1) (o1 := (zUn 7 K o (cs ++ [100000 + (zVa (I 71) (I 63) n (zBl (I 63) n p))])).2.1) (c1 := (zUn 7 K o (cs ++ [100000 + (zVa (I 71) (I 63) n (zBl (I 63) n p))])).2.2) (w1 := false) (y1 := y) (by unfold zStp; rw [if_pos rfl, if_pos (Or.inl h1), hcd])]
        exact e_A1 l G nn hd I tc h8 htc n h5 hn hB _ p hp (zBl (I 63) n p) (vNx (I 63) n (zBl (I 63) n p)) rfl rfl y (zVa (I 71) (I 63) n (zBl (I 63) n p)) K o cs (by omega) b t v H hH h1 rfl (fun b t v H hH2 => ih _ _ _ _ _ b t v H hH2 (by rw [zUn_len, List.length_append, List.length_singleton]; omega) hx.2 (by omega))
      by_cases h2 : zTk (I 71) (I 63) n (zBl (I 63) n p) = 2
      ·
        have hcd : zCd (zTk (I 71) (I 63) n (zBl (I 63) n p)) (zVa (I 71) (I 63) n (zBl (I 63) n p)) = (zVa (I 71) (I 63) n (zBl (I 63) n p)) := if_neg h1
        have hq := hlt (by decide) h2
        have hx := hnx hq
        rw [zRun_r (K1 := (zUn 7 K o (cs ++ [(zVa (I 71) (I 63) n (zBl (I 63) n p))])).1) (o1 := (zUn 7 K o (cs ++ [(zVa (I 71) (I 63) n (zBl (I 63) n p))])).2.1) (c1 := (zUn 7 K o (cs ++ [(zVa (I 71) (I 63) n (zBl (I 63) n p))])).2.2) (w1 := false) (y1 := y) (by unfold zStp; rw [if_pos rfl, if_pos (Or.inr h2), hcd])]
        exact e_A2 l G nn hd I tc h8 htc n h5 hn hB _ p hp (zBl (I 63) n p) (vNx (I 63) n (zBl (I 63) n p)) rfl rfl y (zVa (I 71) (I 63) n (zBl (I 63) n p)) K o cs (by omega) b t v H hH h2 rfl (fun b t v H hH2 => ih _ _ _ _ _ b t v H hH2 (by rw [zUn_len, List.length_append, List.length_singleton]; omega) hx.2 (by omega))
      have h12 : ¬ (zTk (I 71) (I 63) n (zBl (I 63) n p) = 1 ∨ zTk (I 71) (I 63) n (zBl (I 63) n p) = 2) := fun z => z.elim h1 h2
      by_cases h6 : zTk (I 71) (I 63) n (zBl (I 63) n p) = 6
      ·
        cases y with
        | true =>
          by_cases ho : o = 5
          ·
            exact e_ANx l G nn hd I tc h8 htc n h5 hn hB _ p hp (zBl (I 63) n p) (vNx (I 63) n (zBl (I 63) n p)) rfl rfl (zVa (I 71) (I 63) n (zBl (I 63) n p)) K o cs (by omega) b t v H hH h6 rfl ho (zRun_i (by unfold zStp; rw [if_pos rfl, if_neg h12, if_pos ⟨h6, rfl⟩, if_pos ho]))
          ·
            have hq := hlt (by decide) h6
            have hx := hnx hq
            rw [zRun_r (K1 := 13 :: K) (o1 := o + 1) (c1 := cs) (w1 := true) (y1 := true) (by unfold zStp; rw [if_pos rfl, if_neg h12, if_pos ⟨h6, rfl⟩, if_neg ho])]
            exact e_AN l G nn hd I tc h8 htc n h5 hn hB _ p hp (zBl (I 63) n p) (vNx (I 63) n (zBl (I 63) n p)) rfl rfl (zVa (I 71) (I 63) n (zBl (I 63) n p)) K o cs (by omega) b t v H hH h6 rfl ho (fun b t v H hH2 => ih _ _ _ _ _ b t v H hH2 (by rw [List.length_cons]; omega) hx.2 (by omega))
        | false =>
          exact e_A8 l G nn hd I tc h8 htc n h5 hn hB _ p hp (zBl (I 63) n p) (vNx (I 63) n (zBl (I 63) n p)) rfl rfl (zVa (I 71) (I 63) n (zBl (I 63) n p)) K o cs (by omega) b t v H hH h6 rfl (zRun_i (by unfold zStp; rw [if_pos rfl, if_neg h12, if_neg (fun z => absurd z.2 (by decide)), if_neg (by rw [h6]; decide), if_neg (by rw [h6]; decide)]))
      have h6y : ¬ (zTk (I 71) (I 63) n (zBl (I 63) n p) = 6 ∧ y = true) := fun z => h6 z.1
      by_cases h45 : zTk (I 71) (I 63) n (zBl (I 63) n p) = 45
      ·
        by_cases ho : o = 5
        ·
          exact e_AMx l G nn hd I tc h8 htc n h5 hn hB _ p hp (zBl (I 63) n p) (vNx (I 63) n (zBl (I 63) n p)) rfl rfl y (zVa (I 71) (I 63) n (zBl (I 63) n p)) K o cs (by omega) b t v H hH h45 rfl ho (zRun_i (by unfold zStp; rw [if_pos rfl, if_neg h12, if_neg h6y, if_pos h45, if_pos ho]))
        ·
          have hq := hlt (by decide) h45
          have hx := hnx hq
          rw [zRun_r (K1 := 19 :: K) (o1 := o + 1) (c1 := cs) (w1 := true) (y1 := false) (by unfold zStp; rw [if_pos rfl, if_neg h12, if_neg h6y, if_pos h45, if_neg ho])]
          exact e_AM l G nn hd I tc h8 htc n h5 hn hB _ p hp (zBl (I 63) n p) (vNx (I 63) n (zBl (I 63) n p)) rfl rfl y (zVa (I 71) (I 63) n (zBl (I 63) n p)) K o cs (by omega) b t v H hH h45 rfl ho (fun b t v H hH2 => ih _ _ _ _ _ b t v H hH2 (by rw [List.length_cons]; omega) hx.2 (by omega))
      by_cases h40 : zTk (I 71) (I 63) n (zBl (I 63) n p) = 40
      ·
        by_cases ho : o = 5
        ·
          exact e_APx l G nn hd I tc h8 htc n h5 hn hB _ p hp (zBl (I 63) n p) (vNx (I 63) n (zBl (I 63) n p)) rfl rfl y (zVa (I 71) (I 63) n (zBl (I 63) n p)) K o cs (by omega) b t v H hH h40 rfl ho (zRun_i (by unfold zStp; rw [if_pos rfl, if_neg h12, if_neg h6y, if_neg h45, if_pos h40, if_pos ho]))
        ·
          have hq := hlt (by decide) h40
          have hx := hnx hq
          rw [zRun_r (K1 := 0 :: K) (o1 := o + 1) (c1 := cs) (w1 := true) (y1 := true) (by unfold zStp; rw [if_pos rfl, if_neg h12, if_neg h6y, if_neg h45, if_pos h40, if_neg ho])]
          exact e_AP l G nn hd I tc h8 htc n h5 hn hB _ p hp (zBl (I 63) n p) (vNx (I 63) n (zBl (I 63) n p)) rfl rfl y (zVa (I 71) (I 63) n (zBl (I 63) n p)) K o cs (by omega) b t v H hH h40 rfl ho (fun b t v H hH2 => ih _ _ _ _ _ b t v H hH2 (by rw [List.length_cons]; omega) hx.2 (by omega))
      exact e_A9 l G nn hd I tc h8 htc n h5 hn hB _ p hp (zBl (I 63) n p) (vNx (I 63) n (zBl (I 63) n p)) rfl rfl y _ (zVa (I 71) (I 63) n (zBl (I 63) n p)) K o cs (by omega) b t v H hH rfl rfl h1 h2 h6 h45 h40 (zRun_i (by unfold zStp; rw [if_pos rfl, if_neg h12, if_neg h6y, if_neg h45, if_neg h40]))
    | false =>
      have hw : ¬ (false = true) := by decide
      have hul := zUn_len 1 K o cs
      by_cases h59 : zTk (I 71) (I 63) n (zBl (I 63) n p) = 59
      ·
        by_cases hU : (zUn 1 K o cs).1 = []
        ·
          exact e_B1 l G nn hd I tc h8 htc n h5 hn hB _ p hp (zBl (I 63) n p) (vNx (I 63) n (zBl (I 63) n p)) rfl rfl y (zVa (I 71) (I 63) n (zBl (I 63) n p)) K o cs (by omega) b t v H hH h59 rfl hU (zRun_i (by unfold zStp; rw [if_neg hw, if_pos h59, decide_eq_true hU]))
        ·
          exact e_B2 l G nn hd I tc h8 htc n h5 hn hB _ p hp (zBl (I 63) n p) (vNx (I 63) n (zBl (I 63) n p)) rfl rfl y (zVa (I 71) (I 63) n (zBl (I 63) n p)) K o cs (by omega) b t v H hH h59 rfl (fun z => hU (List.eq_nil_of_length_eq_zero z)) (by omega) (zRun_i (by unfold zStp; rw [if_neg hw, if_pos h59, decide_eq_false hU]))
      by_cases h41 : zTk (I 71) (I 63) n (zBl (I 63) n p) = 41
      ·
        have hH1 := zUn_tSt 1 hH o cs
        generalize hU : zUn 1 K o cs = U at hul hH1
        obtain ⟨K1, o1, cs1⟩ := U
        cases K1 with
        | nil =>
          exact e_B3 l G nn hd I tc h8 htc n h5 hn hB _ p hp (zBl (I 63) n p) (vNx (I 63) n (zBl (I 63) n p)) rfl rfl y (zVa (I 71) (I 63) n (zBl (I 63) n p)) K o cs (by omega) b t v H hH h41 rfl o1 cs1 hU (zRun_i (by unfold zStp; rw [if_neg hw, if_neg h59, if_pos h41, hU]))
        | cons s1 K1 =>
          have hul2 : K1.length + 1 + cs1.length = K.length + cs.length := hul
          have hq := hlt (by decide) h41
          have hx := hnx hq
          rw [zRun_r (K1 := (zUn 7 K1 (o1 - 1) cs1).1) (o1 := (zUn 7 K1 (o1 - 1) cs1).2.1) (c1 := (zUn 7 K1 (o1 - 1) cs1).2.2) (w1 := false) (y1 := y) (by unfold zStp; rw [if_neg hw, if_neg h59, if_pos h41, hU])]
          exact e_B4 l G nn hd I tc h8 htc n h5 hn hB _ p hp (zBl (I 63) n p) (vNx (I 63) n (zBl (I 63) n p)) rfl rfl y (zVa (I 71) (I 63) n (zBl (I 63) n p)) K o cs (by omega) b t v H hH h41 rfl s1 K1 o1 cs1 hU (tSt_tl hH1) (by omega) (fun b t v H hH2 => ih _ _ _ _ _ b t v H hH2 (by rw [zUn_len]; omega) hx.2 (by omega))
      by_cases hs : zSg (zTk (I 71) (I 63) n (zBl (I 63) n p)) = -1
      ·
        exact e_B5 l G nn hd I tc h8 htc n h5 hn hB _ p hp (zBl (I 63) n p) (vNx (I 63) n (zBl (I 63) n p)) rfl rfl y _ (zVa (I 71) (I 63) n (zBl (I 63) n p)) K o cs (by omega) b t v H hH rfl rfl h59 h41 hs (zRun_i (by unfold zStp; rw [if_neg hw, if_neg h59, if_neg h41, if_pos hs]))
      have hnz : ¬ zTk (I 71) (I 63) n (zBl (I 63) n p) = 0 := fun z => hs (by rw [z]; rfl)
      generalize hsg : zSg (zTk (I 71) (I 63) n (zBl (I 63) n p)) = s at hs
      by_cases hrk : zRank s = 4
      ·
        have hr0 : zR0 s = 5 := if_pos hrk
        have hul := zUn_len 5 K o cs
        have hH1 := zUn_tSt 5 hH o cs
        generalize hU : zUn 5 K o cs = U at hul hH1
        obtain ⟨K1, o1, cs1⟩ := U
        cases K1 with
        | nil =>
          have hbd : ¬ zBad s [] = true := by simp [zBad]
          have hq := hlt hnz rfl
          have hx := hnx hq
          rw [zRun_r (K1 := [s]) (o1 := o1) (c1 := cs1) (w1 := true) (y1 := (decide (s ≤ 12))) (by unfold zStp; rw [if_neg hw, if_neg h59, if_neg h41, hsg, if_neg hs, hr0, hU, if_neg hbd])]
          exact e_B7b l G nn hd I tc h8 htc n h5 hn hB _ p hp (zBl (I 63) n p) (vNx (I 63) n (zBl (I 63) n p)) rfl rfl y _ (zVa (I 71) (I 63) n (zBl (I 63) n p)) K o cs (by omega) b t v H hH rfl rfl h59 h41 s hsg hs o1 cs1 (by simp at hul ⊢; omega) hH1 hrk hU (fun b t v H hH2 => ih _ _ _ _ _ b t v H hH2 (by simp at hul ⊢; omega) hx.2 (by omega))
        | cons t1 K1 =>
          have hul2 : K1.length + 1 + cs1.length = K.length + cs.length := hul
          by_cases hr1 : zRank t1 = 4
          ·
            have hbd : zBad s (t1 :: K1) = true := by simp [zBad, hrk, hr1]
            exact e_B7e l G nn hd I tc h8 htc n h5 hn hB _ p hp (zBl (I 63) n p) (vNx (I 63) n (zBl (I 63) n p)) rfl rfl y _ (zVa (I 71) (I 63) n (zBl (I 63) n p)) K o cs (by omega) b t v H hH rfl rfl h59 h41 s hsg hs K1 t1 o1 cs1 (by rw [List.length_cons]; omega) hH1 hrk hU (tSt_top hH1) hr1 (zRun_i (by unfold zStp; rw [if_neg hw, if_neg h59, if_neg h41, hsg, if_neg hs, hr0, hU, if_pos hbd]))
          ·
            have hbd : ¬ zBad s (t1 :: K1) = true := by simp [zBad, hrk, hr1]
            have hq := hlt hnz rfl
            have hx := hnx hq
            rw [zRun_r (K1 := s :: t1 :: K1) (o1 := o1) (c1 := cs1) (w1 := true) (y1 := (decide (s ≤ 12))) (by unfold zStp; rw [if_neg hw, if_neg h59, if_neg h41, hsg, if_neg hs, hr0, hU, if_neg hbd])]
            exact e_B7d l G nn hd I tc h8 htc n h5 hn hB _ p hp (zBl (I 63) n p) (vNx (I 63) n (zBl (I 63) n p)) rfl rfl y _ (zVa (I 71) (I 63) n (zBl (I 63) n p)) K o cs (by omega) b t v H hH rfl rfl h59 h41 s hsg hs K1 t1 o1 cs1 (by rw [List.length_cons]; omega) hH1 hrk hU (tSt_top hH1) hr1 (fun b t v H hH2 => ih _ _ _ _ _ b t v H hH2 (by rw [List.length_cons, List.length_cons]; omega) hx.2 (by omega))
      ·
        have hr0 : zR0 s = zRank s := if_neg hrk
        have hul := zUn_len (zRank s) K o cs
        have hH1 := zUn_tSt (zRank s) hH o cs
        generalize hU : zUn (zRank s) K o cs = U at hul hH1
        obtain ⟨K1, o1, cs1⟩ := U
        have hul2 : K1.length + cs1.length = K.length + cs.length := hul
        have hbd : ¬ zBad s K1 = true := by simp [zBad, hrk]
        have hq := hlt hnz rfl
        have hx := hnx hq
        rw [zRun_r (K1 := s :: K1) (o1 := o1) (c1 := cs1) (w1 := true) (y1 := (decide (s ≤ 12))) (by unfold zStp; rw [if_neg hw, if_neg h59, if_neg h41, hsg, if_neg hs, hr0, hU, if_neg hbd])]
        exact e_B7a l G nn hd I tc h8 htc n h5 hn hB _ p hp (zBl (I 63) n p) (vNx (I 63) n (zBl (I 63) n p)) rfl rfl y _ (zVa (I 71) (I 63) n (zBl (I 63) n p)) K o cs (by omega) b t v H hH rfl rfl h59 h41 s hsg hs K1 o1 cs1 (by omega) hH1 hrk hU (fun b t v H hH2 => ih _ _ _ _ _ b t v H hH2 (by rw [List.length_cons]; omega) hx.2 (by omega))
def zE (wd g : Nat → Int32) (n p : Nat) (cs : List Int32) : Bool × Nat × List Int32 × Int32 × List Int32 := zRun wd g n 161 p [] 0 cs true true
theorem c_Model_eRead (l : Launch) (G : xG) {d : Nat} (nn : Nat) (hd : 4 ≤ d) (I : xI) (tc : Nat) (h8 : I 59 8 = nI tc) (htc : tc < 6) (n : Nat) (h5 : I 59 5 = nI n) (hn : n ≤ 160) (hB : ∀ j, j < n → ¬ I 63 j < 0) (p : Nat) (hp : p ≤ n) (cs : List Int32) (hl : cs.length ≤ p) (b t v hm op : Int32) (H : Nat → Int32) (r : Bool × Nat × List Int32 × Int32 × List Int32) (hr : zE (I 71) (I 63) n p cs = r) : XM l G d y_Model_eRead b_Model_eRead 4 (some .boolean) 0 0 xK0 [.ref (xg G 59)] nn (xm G (xup xYf 72 (some (sInts 200))) (xup (xup (xup I 64 (zC (200 * tc) cs (I 64))) 72 H) 59 (zS (I 59) (nI p) b t v hm op (nI cs.length)))) (some (.int (xb r.1))) nn (xm G xYf (xup (xup I 64 (zC (200 * tc) r.2.2.2.2 (I 64))) 59 (zS (I 59) (nI (vNx (I 63) n (zBl (I 63) n r.2.1))) (nI (zBl (I 63) n r.2.1)) (zTk (I 71) (I 63) n (zBl (I 63) n r.2.1)) (zVa (I 71) (I 63) n (zBl (I 63) n r.2.1)) (nI r.2.2.1.length) r.2.2.2.1 (nI r.2.2.2.2.length)))) := by
  have key := eRead_loop (d := d) l G nn hd I tc h8 htc n h5 hn hB 161 p [] 0 cs true true b t v H (fun k hk => absurd hk (Nat.not_lt_zero k)) (by simpa using hl) hp (by omega)
  unfold zE at hr
  rw [hr] at key
  unfold Qe at key
  rw [show nI ([] : List Int32).length = 0 from rfl] at key
  refine XM.of (by decide) (Nat.le_of_ble_eq_true rfl) (L := [(0, .ref (xg G 59))]) rfl ?_
  refine X_aload_n d_Model_eRead_0 rfl rfl ?_
  refine X_iconst (v := 0) d_Model_eRead_1 rfl ?_
  refine X_putI fp_Model_99 (show (xup xYf 72 (some (sInts 200))) 59 = some sModel from rfl) rfl d_Model_eRead_2 ?_
  rw [xw_rec]
  rw [zSs_24]
  refine X_aload_n d_Model_eRead_5 rfl rfl ?_
  refine X_iconst (v := 0) d_Model_eRead_6 rfl ?_
  refine X_putI fp_Model_106 (show (xup xYf 72 (some (sInts 200))) 59 = some sModel from rfl) rfl d_Model_eRead_7 ?_
  rw [xw_rec]
  rw [zSs_25]
  refine X_iconst (v := 1) d_Model_eRead_10 rfl ?_
  refine X_istore_n d_Model_eRead_11 rfl (by decide) [1, 0] (L' := [(0, .ref (xg G 59)), (1, .int 1)]) rfl ?_
  refine X_iconst (v := 1) d_Model_eRead_12 rfl ?_
  refine X_istore_n d_Model_eRead_13 rfl (by decide) [1, 2, 0] (L' := [(0, .ref (xg G 59)), (1, .int 1), (2, .int 1)]) rfl ?_
  exact key
theorem zRun_len (wd g : Nat → Int32) (n : Nat) (hn : n ≤ 160) (hB : ∀ j, j < n → ¬ g j < 0) : ∀ (f p : Nat) (K : List Int32) (o : Int32) (cs : List Int32) (w y : Bool), K.length + cs.length ≤ p → p ≤ n → (zRun wd g n f p K o cs w y).2.2.1.length + (zRun wd g n f p K o cs w y).2.2.2.2.length ≤ (zRun wd g n f p K o cs w y).2.1 ∧ p ≤ (zRun wd g n f p K o cs w y).2.1 ∧ (zRun wd g n f p K o cs w y).2.1 ≤ n
  | 0, p, K, o, cs, w, y, hl, hp => ⟨hl, Nat.le_refl _, hp⟩
  | f + 1, p, K, o, cs, w, y, hl, hp => by
    have hbl := zBl_b g hp
    have ih := zRun_len wd g n hn hB f (vNx g n (zBl g n p))
    have hst : (∃ b K1 o1 c1, zStp (zTk wd g n (zBl g n p)) (zVa wd g n (zBl g n p)) K o cs w y = .inl (b, K1, o1, c1) ∧ K1.length + c1.length ≤ p) ∨ (∃ K1 o1 c1 w1 y1, zStp (zTk wd g n (zBl g n p)) (zVa wd g n (zBl g n p)) K o cs w y = .inr (K1, o1, c1, w1, y1) ∧ K1.length + c1.length ≤ p + 1 ∧ ¬ zTk wd g n (zBl g n p) = 0) := by
      generalize zTk wd g n (zBl g n p) = tk
      generalize zVa wd g n (zBl g n p) = va
      have hA := zUn_len 7 K o (cs ++ [zCd tk va])
      have hB1 := zUn_len 1 K o cs
      have hC := zUn_len (zR0 (zSg tk)) K o cs
      rw [List.length_append, List.length_singleton] at hA
      unfold zStp
      by_cases hw : w = true
      · rw [if_pos hw]
        by_cases h1 : tk = 1 ∨ tk = 2
        · rw [if_pos h1]
          refine Or.inr ⟨_, _, _, _, _, rfl, by omega, ?_⟩
          rcases h1 with h1 | h1 <;> rw [h1] <;> decide
        · rw [if_neg h1]
          by_cases h6 : tk = 6 ∧ y = true
          · rw [if_pos h6]
            by_cases ho : o = 5
            · rw [if_pos ho]; exact Or.inl ⟨_, _, _, _, rfl, hl⟩
            · rw [if_neg ho]; exact Or.inr ⟨_, _, _, _, _, rfl, by rw [List.length_cons]; omega, by rw [h6.1]; decide⟩
          · rw [if_neg h6]
            by_cases h45 : tk = 45
            · rw [if_pos h45]
              by_cases ho : o = 5
              · rw [if_pos ho]; exact Or.inl ⟨_, _, _, _, rfl, hl⟩
              · rw [if_neg ho]; exact Or.inr ⟨_, _, _, _, _, rfl, by rw [List.length_cons]; omega, by rw [h45]; decide⟩
            · rw [if_neg h45]
              by_cases h40 : tk = 40
              · rw [if_pos h40]
                by_cases ho : o = 5
                · rw [if_pos ho]; exact Or.inl ⟨_, _, _, _, rfl, hl⟩
                · rw [if_neg ho]; exact Or.inr ⟨_, _, _, _, _, rfl, by rw [List.length_cons]; omega, by rw [h40]; decide⟩
              · rw [if_neg h40]; exact Or.inl ⟨_, _, _, _, rfl, hl⟩
      · rw [if_neg hw]
        by_cases h59 : tk = 59
        · rw [if_pos h59]; exact Or.inl ⟨_, _, _, _, rfl, by omega⟩
        · rw [if_neg h59]
          by_cases h41 : tk = 41
          · rw [if_pos h41]
            generalize zUn 1 K o cs = U at hB1
            obtain ⟨K1, o1, cs1⟩ := U
            cases K1 with
            | nil => exact Or.inl ⟨_, _, _, _, rfl, by simp at hB1 ⊢; omega⟩
            | cons s1 K1 =>
              rw [List.length_cons] at hB1
              have hD := zUn_len 7 K1 (o1 - 1) cs1
              have hB2 : K1.length + 1 + cs1.length = K.length + cs.length := hB1
              exact Or.inr ⟨_, _, _, _, _, rfl, by omega, by rw [h41]; decide⟩
          · rw [if_neg h41]
            by_cases hs : zSg tk = -1
            · rw [if_pos hs]; exact Or.inl ⟨_, _, _, _, rfl, hl⟩
            · rw [if_neg hs]
              by_cases hb : zBad (zSg tk) (zUn (zR0 (zSg tk)) K o cs).1 = true
              · rw [if_pos hb]; exact Or.inl ⟨_, _, _, _, rfl, by omega⟩
              · rw [if_neg hb]; exact Or.inr ⟨_, _, _, _, _, rfl, by rw [List.length_cons]; omega, fun z => hs (by rw [z]; rfl)⟩
    rcases hst with ⟨b, K1, o1, c1, hs, h1⟩ | ⟨K1, o1, c1, w1, y1, hs, h1, h2⟩
    · rw [zRun_i hs]
      exact ⟨h1, Nat.le_refl _, hp⟩
    · rw [zRun_r hs]
      have hq : zBl g n p < n := Nat.lt_of_not_le (fun z => h2 (zTk_0 z))
      have hx := vNx_b hB hn hq
      have := ih K1 o1 c1 w1 y1 (by omega) hx.2
      omega
