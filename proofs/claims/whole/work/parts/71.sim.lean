theorem zRn_all {Q : Int32 → Bool} {g : Nat → Int32} {n : Nat} (h1 : Q (-1) = false) : ∀ (f p : Nat), p ≤ n → ∀ i, p + i < rRun Q g n f p → Q (g (p + i)) = true
  | 0, p, _, i, h => absurd h (by rw [rRun]; omega)
  | f + 1, p, hp, i, h => by
    rw [rRun] at h
    by_cases hq : Q (rB g n p) = true
    · rw [if_pos hq] at h
      have hpn : p < n := by
        apply Nat.lt_of_not_le
        intro z
        rw [rB, if_neg (by omega), h1] at hq
        exact absurd hq (by decide)
      rw [rB, if_pos hpn] at hq
      cases i with
      | zero => exact hq
      | succ i =>
        have := zRn_all (Q := Q) (g := g) (n := n) h1 f (p + 1) hpn i (by omega)
        rw [show p + (i + 1) = p + 1 + i by omega]
        exact this
    · rw [if_neg hq] at h
      omega
theorem nNum_z {g : Nat → Int32} {n q : Nat} : ∀ i, i ≤ 4 → q + i ≤ n → nNum g n q i = zDv g q i
  | 0, _, _ => rfl
  | i + 1, h, hn => by rw [nNum, zDv, if_pos (by omega), if_pos (by omega), nNum_z i (by omega) (by omega), rB, if_pos (by omega)]
theorem zDv_r {g : Nat → Int32} {q : Nat} : ∀ i, i ≤ 4 → (∀ j, j < i → bDigit (g (q + j)) = true) → ∃ V, zDv g q i = nI V ∧ V < 10 ^ i
  | 0, _, _ => ⟨0, rfl, by decide⟩
  | i + 1, h, hd => by
    obtain ⟨V, hV, hl⟩ := zDv_r i (by omega) (fun j hj => hd j (by omega))
    have hx := hd i (by omega)
    rw [bDigit, xin_iff] at hx
    obtain ⟨k, hk, hke⟩ := nI_of (x := g (q + i)) (Int32.not_lt.mpr (by have := hx.1; grind))
    rw [hke] at hx
    have a1 := (nI_leI (a := 48) (by decide) hk).mp hx.1
    have a2 := (nI_leI (b := 57) hk (by decide)).mp hx.2
    refine ⟨10 * V + k - 48, ?_, ?_⟩
    · rw [zDv, if_pos (by omega), hV, hke, show (10 : Int32) * nI V = nI (10 * V) from nI_mul 10 V, nI_add, show nI (10 * V + k) - 48 = nI (10 * V + k - 48) from pk_sub (b := 48) (by omega)]
    · rw [Nat.pow_succ]; omega
theorem lex_all (wd g : Nat → Int32) (n q : Nat) (hW : ∀ j, j < 96 → wd j = zWd j) (hB : ∀ j, j < n → ¬ g j < 0) (hn : n ≤ 160) (hq : q ≤ n) : zTk wd g n q = tkOf (vTk g n q) ∧ vaOk (vTk g n q) (zVa wd g n q) ∧ (vTk g n q = 1 → ∃ V, V < 10000 ∧ zVa wd g n q = nI V ∧ ∀ nu, vNu g n q nu = nI V) := by
  rcases Nat.lt_or_ge q n with h | h
  · have hb : rB g n q = g q := if_pos h
    have h0 : ¬ n ≤ q := by omega
    have hn0 := hB q h
    by_cases hl : bLetter (g q) = true
    · have hr := zRn_b (Q := bLetter) (g := g) (n := n) (by decide) 160 q hq
      have hr1 : q + 1 ≤ rRun bLetter g n 160 q := by
        rw [show (160 : Nat) = 159 + 1 from rfl, zRn_y h hl]
        exact (zRn_b (Q := bLetter) (g := g) (n := n) (by decide) 159 (q + 1) h).1
      obtain ⟨L, hL⟩ : ∃ L, rRun bLetter g n 160 q = q + L := ⟨rRun bLetter g n 160 q - q, by omega⟩
      have hlet : zLet g q L := fun i hi => zRn_all (Q := bLetter) (g := g) (n := n) (by decide) 160 q hq i (by omega)
      have hw := wz_all wd g n q L hW hlet (by omega) (by omega)
      have e1 : vTk g n q = wTok (wNum g n q L) 12 := by
        rw [vTk, hb, if_neg hn0, if_pos hl, hL, Nat.add_sub_cancel_left]
      have e2 : zTk wd g n q = zTw (zWf wd g q (q + L) 12 0) := by rw [zTk, if_neg h0, if_pos hl, hL]
      have e3 : zVa wd g n q = zVw (zWf wd g q (q + L) 12 0) := by rw [zVa, if_neg h0, if_pos hl, hL]
      rw [e1, e2, e3]
      refine ⟨hw.1, hw.2, fun z => ?_⟩
      exfalso
      have hz : ∀ k, k ≤ 12 → ¬ wTok (wNum g n q L) k = 1 := by
        intro k
        induction k with
        | zero => intro _; rw [wTok]; decide
        | succ k ih =>
          intro hk
          rw [wTok]
          split
          · have : ∀ k, k < 12 → ¬ 128 + nI k = 1 := by decide
            exact this k hk
          · exact ih (by omega)
      exact hz 12 (Nat.le_refl _) z
    · by_cases hd : bDigit (g q) = true
      · have hr := zRn_b (Q := bDigit) (g := g) (n := n) (by decide) 160 q hq
        obtain ⟨L, hL⟩ : ∃ L, rRun bDigit g n 160 q = q + L := ⟨rRun bDigit g n 160 q - q, by omega⟩
        have e1 : vTk g n q = if 4 < nI L then -1 else 1 := by rw [vTk, hb, if_neg hn0, if_neg hl, if_pos hd, hL, pk_sub (by omega), Nat.add_sub_cancel_left]
        have e2 : zTk wd g n q = if 4 < nI L then -1 else 1 := by rw [zTk, if_neg h0, if_neg hl, if_pos hd, hL, Nat.add_sub_cancel_left]
        have e3 : zVa wd g n q = zDv g q L := by rw [zVa, if_neg h0, if_neg hl, if_pos hd, hL, Nat.add_sub_cancel_left]
        rw [e1, e2, e3]
        by_cases h4 : (4 : Int32) < nI L
        · rw [if_pos h4]
          exact ⟨by decide, ⟨fun z => absurd z (by decide), fun z => absurd z (by decide)⟩, fun z => absurd z (by decide)⟩
        · rw [if_neg h4]
          have hL4 : L ≤ 4 := Nat.le_of_not_lt (fun z => h4 (nI_lt (a := 4) z (by omega)))
          refine ⟨by decide, ⟨fun z => absurd z (by decide), fun z => absurd z (by decide)⟩, fun _ => ?_⟩
          obtain ⟨V, hV, hl2⟩ := zDv_r (g := g) (q := q) L hL4 (fun j hj => zRn_all (Q := bDigit) (g := g) (n := n) (by decide) 160 q hq j (by omega))
          refine ⟨V, ?_, hV, fun nu => ?_⟩
          · have : 10 ^ L ≤ 10 ^ 4 := Nat.pow_le_pow_right (by decide) hL4
            omega
          · rw [vNu, hb, if_neg hn0, if_neg hl, if_pos hd, hL, Nat.add_sub_cancel_left, nNum_z L hL4 (by omega), hV]
      · have e3 : zVa wd g n q = 0 := by rw [zVa, if_neg h0, if_neg hl, if_neg hd]
        by_cases hs : bSign (g q) = true
        · have e1 : vTk g n q = g q := by rw [vTk, hb, if_neg hn0, if_neg hl, if_neg hd, if_pos hs]
          have e2 : zTk wd g n q = g q := by rw [zTk, if_neg h0, if_neg hl, if_neg hd, if_pos hs]
          rw [e1, e2]
          have hs2 : g q = 40 ∨ g q = 41 ∨ g q = 59 ∨ g q = 43 ∨ g q = 45 ∨ g q = 42 ∨ g q = 60 ∨ g q = 61 := by
            simp [bSign] at hs
            grind
          rcases hs2 with e | e | e | e | e | e | e | e <;> rw [e] <;> exact ⟨by decide, ⟨fun z => absurd z (by decide), fun z => absurd z (by decide)⟩, fun z => absurd z (by decide)⟩
        · have e1 : vTk g n q = -1 := by rw [vTk, hb, if_neg hn0, if_neg hl, if_neg hd, if_neg hs]
          have e2 : zTk wd g n q = -1 := by rw [zTk, if_neg h0, if_neg hl, if_neg hd, if_neg hs]
          rw [e1, e2]
          exact ⟨by decide, ⟨fun z => absurd z (by decide), fun z => absurd z (by decide)⟩, fun z => absurd z (by decide)⟩
  · have e1 : vTk g n q = 0 := by
      have hb : rB g n q = -1 := if_neg (by omega)
      rw [vTk, hb, if_pos (by decide)]
    rw [e1, zTk_0 h]
    exact ⟨by decide, ⟨fun z => absurd z (by decide), fun z => absurd z (by decide)⟩, fun z => absurd z (by decide)⟩
/-- steps of the model's reading -/
def zGo (wd g : Nat → Int32) (n p : Nat) (K : List Int32) (o : Int32) (cs : List Int32) (w y : Bool) (p' : Nat) (K' : List Int32) (o' : Int32) (cs' : List Int32) (w' y' : Bool) : Prop := p ≤ p' ∧ ∃ j, j ≤ p' - p ∧ ∀ f, zRun wd g n (f + j) p K o cs w y = zRun wd g n f p' K' o' cs' w' y'
def zNo (wd g : Nat → Int32) (n p : Nat) (K : List Int32) (o : Int32) (cs : List Int32) (w y : Bool) (q : Nat) : Prop := ∃ j, j ≤ n + 1 - p ∧ ∀ f, (zRun wd g n (f + j) p K o cs w y).1 = false ∧ zBl g n (zRun wd g n (f + j) p K o cs w y).2.1 = q
theorem zGo_tr {wd g : Nat → Int32} {n p : Nat} {K : List Int32} {o : Int32} {cs : List Int32} {w y : Bool} {p1 : Nat} {K1 : List Int32} {o1 : Int32} {c1 : List Int32} {w1 y1 : Bool} {p2 : Nat} {K2 : List Int32} {o2 : Int32} {c2 : List Int32} {w2 y2 : Bool} (h : zGo wd g n p K o cs w y p1 K1 o1 c1 w1 y1) (h2 : zGo wd g n p1 K1 o1 c1 w1 y1 p2 K2 o2 c2 w2 y2) : zGo wd g n p K o cs w y p2 K2 o2 c2 w2 y2 := by
  obtain ⟨a, j, hj, e⟩ := h
  obtain ⟨b, k, hk, e2⟩ := h2
  exact ⟨by omega, k + j, by omega, fun f => by rw [← Nat.add_assoc, e (f + k), e2 f]⟩
theorem zGo_no {wd g : Nat → Int32} {n p : Nat} {K : List Int32} {o : Int32} {cs : List Int32} {w y : Bool} {p1 : Nat} {K1 : List Int32} {o1 : Int32} {c1 : List Int32} {w1 y1 : Bool} {q : Nat} (h : zGo wd g n p K o cs w y p1 K1 o1 c1 w1 y1) (hp : p1 ≤ n) (h2 : zNo wd g n p1 K1 o1 c1 w1 y1 q) : zNo wd g n p K o cs w y q := by
  obtain ⟨a, j, hj, e⟩ := h
  obtain ⟨k, hk, e2⟩ := h2
  exact ⟨k + j, by omega, fun f => by rw [← Nat.add_assoc, e (f + k)]; exact e2 f⟩
theorem zGo_s {wd g : Nat → Int32} {n p : Nat} (hB : ∀ j, j < n → ¬ g j < 0) (hn : n ≤ 160) (hp : p ≤ n) (hq : zBl g n p < n) {K : List Int32} {o : Int32} {cs : List Int32} {w y : Bool} {K1 : List Int32} {o1 : Int32} {c1 : List Int32} {w1 y1 : Bool} (h : zStp (zTk wd g n (zBl g n p)) (zVa wd g n (zBl g n p)) K o cs w y = .inr (K1, o1, c1, w1, y1)) : zGo wd g n p K o cs w y (vNx g n (zBl g n p)) K1 o1 c1 w1 y1 := by
  have h1 := vNx_b hB hn hq
  have h2 := zBl_b g hp
  exact ⟨by omega, 1, by omega, fun f => zRun_r h⟩
theorem zNo_s {wd g : Nat → Int32} {n p : Nat} (hp : p ≤ n) {K : List Int32} {o : Int32} {cs : List Int32} {w y : Bool} {K1 : List Int32} {o1 : Int32} {c1 : List Int32} (h : zStp (zTk wd g n (zBl g n p)) (zVa wd g n (zBl g n p)) K o cs w y = .inl (false, K1, o1, c1)) : zNo wd g n p K o cs w y (zBl g n p) := ⟨1, by omega, fun f => by rw [zRun_i h]; exact ⟨rfl, rfl⟩⟩
/-- as the class holds a reading: the next token begins behind p, cs came, o stand open -/
def RC (g : Nat → Int32) (n t : Nat) (I : xI) (p : Nat) (cs : List Int32) (o : Nat) : Prop := (I 12 = g ∧ I 11 2 = nI n ∧ p ≤ n) ∧ (I 11 3 = nI (vNx g n (zBl g n p)) ∧ I 11 4 = nI (zBl g n p) ∧ I 11 5 = vTk g n (zBl g n p) ∧ ∃ nu, I 11 6 = vNu g n (zBl g n p) nu) ∧ I 11 7 = nI o ∧ I 11 8 = -1 ∧ I t 3 = nI cs.length ∧ ∀ j, j < cs.length → I (t + 1) j = tCode (cs.getD j 0)
def stab (r : Int32) (K : List Int32) : Prop := ∀ s K', K = s :: K' → ¬ r ≤ zRank s
theorem zUn_st {r : Int32} {K : List Int32} (h : stab r K) (o : Int32) (cs : List Int32) : zUn r K o cs = (K, o, cs) := by
  cases K with
  | nil => rfl
  | cons s K => rw [zUn, if_neg (h s K rfl)]
theorem zUn_cp {R r : Int32} (h : R ≤ r) : ∀ (K : List Int32) (o : Int32) (cs : List Int32), zUn R (zUn r K o cs).1 (zUn r K o cs).2.1 (zUn r K o cs).2.2 = zUn R K o cs
  | [], _, _ => rfl
  | s :: K, o, cs => by
    by_cases hr : r ≤ zRank s
    · rw [zUn, if_pos hr, zUn_cp h K]
      conv => rhs; rw [zUn, if_pos (Int32.le_trans h hr)]
    · rw [zUn, if_neg hr]
theorem stab_mono {r R : Int32} (h : R ≤ r) {K : List Int32} (hs : stab R K) : stab r K := fun s K' e z => hs s K' e (Int32.le_trans h z)
theorem stab_nil (r : Int32) : stab r [] := fun _ _ e => by cases e
theorem stab_cons {r s : Int32} (h : ¬ r ≤ zRank s) (K : List Int32) : stab r (s :: K) := fun s' K' e => by cases e; exact h
