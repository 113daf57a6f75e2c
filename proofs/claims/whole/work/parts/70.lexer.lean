def zWd (j : Nat) : Int32 := [98, 117, 105, 108, 100, 115, 32, 32, 102, 97, 100, 101, 115, 32, 32, 32, 98, 101, 110, 100, 115, 32, 32, 32, 115, 112, 101, 101, 100, 32, 32, 32, 99, 97, 107, 101, 32, 32, 32, 32, 117, 115, 101, 100, 32, 32, 32, 32, 109, 111, 114, 101, 32, 32, 32, 32, 115, 101, 110, 115, 101, 32, 32, 32, 101, 121, 101, 115, 32, 32, 32, 32, 111, 114, 32, 32, 32, 32, 32, 32, 97, 110, 100, 32, 32, 32, 32, 32, 110, 111, 116, 32, 32, 32, 32, 32].getD j 0
theorem zLk_iff {wd g : Nat → Int32} {q e k : Nat} : zLk wd g q e k 8 = true ↔ e - q ≤ 8 ∧ wd (8 * k + 0) = zCh g q e 0 ∧ wd (8 * k + 1) = zCh g q e 1 ∧ wd (8 * k + 2) = zCh g q e 2 ∧ wd (8 * k + 3) = zCh g q e 3 ∧ wd (8 * k + 4) = zCh g q e 4 ∧ wd (8 * k + 5) = zCh g q e 5 ∧ wd (8 * k + 6) = zCh g q e 6 ∧ wd (8 * k + 7) = zCh g q e 7 := by
  simp only [zLk, Bool.and_eq_true, decide_eq_true_eq, and_assoc]
theorem wN_step {g : Nat → Int32} {n q i V x : Nat} (h : wNum g n q i = lN V) (hi : i < 6) (hq : q + i < n) (hx : g (q + i) = nI (96 + x)) (h1 : 1 ≤ x) (h2 : x ≤ 26) : wNum g n q (i + 1) = lN (V * 32 + x) := by
  rw [wNum, if_pos hi, h, rB, if_pos hq, hx, nI_l (by omega)]
  rw [show lN V * 32 = lN (V * 32) from lN_mul V 32, lN_add, show lN (V * 32 + (96 + x)) - 97 = lN (V * 32 + (96 + x) - 97) from lN_sub (b := 97) (by omega), lN_1]
  congr 1
  omega
theorem wN_long {g : Nat → Int32} {n q i : Nat} (hi : 6 ≤ i) : wNum g n q (i + 1) = -4611686018427387904 := by rw [wNum, if_neg (by omega)]
theorem lt_x {b : Int32} (h : bLetter b = true) : ∃ x, b = nI (96 + x) ∧ 1 ≤ x ∧ x ≤ 26 := by
  rw [bLetter, xin_iff] at h
  obtain ⟨k, hk, rfl⟩ := nI_of (x := b) (Int32.not_lt.mpr (by have := h.1; grind))
  have a1 := (nI_leI (a := 97) (by decide) hk).mp h.1
  have a2 := (nI_leI (b := 122) hk (by decide)).mp h.2
  exact ⟨k - 96, by rw [show 96 + (k - 96) = k by omega], by omega, by omega⟩
theorem zCh_l {g : Nat → Int32} {q L c x : Nat} (h : c < L) (hx : g (q + c) = nI (96 + x)) : zCh g q (q + L) c = nI (96 + x) := by rw [zCh, if_pos (by omega), hx]
theorem zCh_s {g : Nat → Int32} {q L c : Nat} (h : ¬ c < L) : zCh g q (q + L) c = nI 32 := by rw [zCh, if_neg (by omega)]; rfl
theorem nI_x {a x : Nat} (ha : a < 1000) (hx : x < 1000) : nI a = nI x ↔ a = x := nI_eq (by omega) (by omega)
/-- the letters of a run -/
def zLet (g : Nat → Int32) (q L : Nat) : Prop := ∀ i, i < L → bLetter (g (q + i)) = true
theorem lex_1 (wd g : Nat → Int32) (n q : Nat) (hW : ∀ j, j < 96 → wd j = zWd j) (hl : zLet g q 1) (hn : q + 1 ≤ n) : ∃ V, V < 2 ^ 31 ∧ wNum g n q 1 = lN V ∧ (zLk wd g q (q + 1) 0 8 = true ↔ V = 89436307) ∧ (zLk wd g q (q + 1) 1 8 = true ↔ V = 6328499) ∧ (zLk wd g q (q + 1) 2 8 = true ↔ V = 2275475) ∧ (zLk wd g q (q + 1) 3 8 = true ↔ V = 20452516) ∧ (zLk wd g q (q + 1) 4 8 = true ↔ V = 99685) ∧ (zLk wd g q (q + 1) 5 8 = true ↔ V = 707748) ∧ (zLk wd g q (q + 1) 6 8 = true ↔ V = 441925) ∧ (zLk wd g q (q + 1) 7 8 = true ↔ V = 20101733) ∧ (zLk wd g q (q + 1) 8 8 = true ↔ V = 189619) ∧ (zLk wd g q (q + 1) 9 8 = true ↔ V = 498) ∧ (zLk wd g q (q + 1) 10 8 = true ↔ V = 1476) ∧ (zLk wd g q (q + 1) 11 8 = true ↔ V = 14836) := by
  obtain ⟨x0, e0, a0, b0⟩ := lt_x (hl 0 (by decide))
  have w0 : wNum g n q 0 = lN 0 := rfl
  have w1 := wN_step w0 (by decide) (by omega) e0 a0 b0
  refine ⟨0 * 32 + x0, by omega, w1, ?_, ?_, ?_, ?_, ?_, ?_, ?_, ?_, ?_, ?_, ?_, ?_⟩
  · rw [zLk_iff]
    rw [zCh_l (L := 1) (c := 0) (by decide) e0, zCh_s (L := 1) (c := 1) (by decide), zCh_s (L := 1) (c := 2) (by decide), zCh_s (L := 1) (c := 3) (by decide), zCh_s (L := 1) (c := 4) (by decide), zCh_s (L := 1) (c := 5) (by decide), zCh_s (L := 1) (c := 6) (by decide), zCh_s (L := 1) (c := 7) (by decide)]
    rw [show wd (8 * 0 + 0) = nI 98 from hW 0 (by decide), show wd (8 * 0 + 1) = nI 117 from hW 1 (by decide), show wd (8 * 0 + 2) = nI 105 from hW 2 (by decide), show wd (8 * 0 + 3) = nI 108 from hW 3 (by decide), show wd (8 * 0 + 4) = nI 100 from hW 4 (by decide), show wd (8 * 0 + 5) = nI 115 from hW 5 (by decide), show wd (8 * 0 + 6) = nI 32 from hW 6 (by decide), show wd (8 * 0 + 7) = nI 32 from hW 7 (by decide)]
    rw [nI_x (a := 98) (x := 96 + x0) (by decide) (by omega), nI_x (a := 117) (x := 32) (by decide) (by omega), nI_x (a := 105) (x := 32) (by decide) (by omega), nI_x (a := 108) (x := 32) (by decide) (by omega), nI_x (a := 100) (x := 32) (by decide) (by omega), nI_x (a := 115) (x := 32) (by decide) (by omega), nI_x (a := 32) (x := 32) (by decide) (by omega)]
    omega
  · rw [zLk_iff]
    rw [zCh_l (L := 1) (c := 0) (by decide) e0, zCh_s (L := 1) (c := 1) (by decide), zCh_s (L := 1) (c := 2) (by decide), zCh_s (L := 1) (c := 3) (by decide), zCh_s (L := 1) (c := 4) (by decide), zCh_s (L := 1) (c := 5) (by decide), zCh_s (L := 1) (c := 6) (by decide), zCh_s (L := 1) (c := 7) (by decide)]
    rw [show wd (8 * 1 + 0) = nI 102 from hW 8 (by decide), show wd (8 * 1 + 1) = nI 97 from hW 9 (by decide), show wd (8 * 1 + 2) = nI 100 from hW 10 (by decide), show wd (8 * 1 + 3) = nI 101 from hW 11 (by decide), show wd (8 * 1 + 4) = nI 115 from hW 12 (by decide), show wd (8 * 1 + 5) = nI 32 from hW 13 (by decide), show wd (8 * 1 + 6) = nI 32 from hW 14 (by decide), show wd (8 * 1 + 7) = nI 32 from hW 15 (by decide)]
    rw [nI_x (a := 102) (x := 96 + x0) (by decide) (by omega), nI_x (a := 97) (x := 32) (by decide) (by omega), nI_x (a := 100) (x := 32) (by decide) (by omega), nI_x (a := 101) (x := 32) (by decide) (by omega), nI_x (a := 115) (x := 32) (by decide) (by omega), nI_x (a := 32) (x := 32) (by decide) (by omega)]
    omega
  · rw [zLk_iff]
    rw [zCh_l (L := 1) (c := 0) (by decide) e0, zCh_s (L := 1) (c := 1) (by decide), zCh_s (L := 1) (c := 2) (by decide), zCh_s (L := 1) (c := 3) (by decide), zCh_s (L := 1) (c := 4) (by decide), zCh_s (L := 1) (c := 5) (by decide), zCh_s (L := 1) (c := 6) (by decide), zCh_s (L := 1) (c := 7) (by decide)]
    rw [show wd (8 * 2 + 0) = nI 98 from hW 16 (by decide), show wd (8 * 2 + 1) = nI 101 from hW 17 (by decide), show wd (8 * 2 + 2) = nI 110 from hW 18 (by decide), show wd (8 * 2 + 3) = nI 100 from hW 19 (by decide), show wd (8 * 2 + 4) = nI 115 from hW 20 (by decide), show wd (8 * 2 + 5) = nI 32 from hW 21 (by decide), show wd (8 * 2 + 6) = nI 32 from hW 22 (by decide), show wd (8 * 2 + 7) = nI 32 from hW 23 (by decide)]
    rw [nI_x (a := 98) (x := 96 + x0) (by decide) (by omega), nI_x (a := 101) (x := 32) (by decide) (by omega), nI_x (a := 110) (x := 32) (by decide) (by omega), nI_x (a := 100) (x := 32) (by decide) (by omega), nI_x (a := 115) (x := 32) (by decide) (by omega), nI_x (a := 32) (x := 32) (by decide) (by omega)]
    omega
  · rw [zLk_iff]
    rw [zCh_l (L := 1) (c := 0) (by decide) e0, zCh_s (L := 1) (c := 1) (by decide), zCh_s (L := 1) (c := 2) (by decide), zCh_s (L := 1) (c := 3) (by decide), zCh_s (L := 1) (c := 4) (by decide), zCh_s (L := 1) (c := 5) (by decide), zCh_s (L := 1) (c := 6) (by decide), zCh_s (L := 1) (c := 7) (by decide)]
    rw [show wd (8 * 3 + 0) = nI 115 from hW 24 (by decide), show wd (8 * 3 + 1) = nI 112 from hW 25 (by decide), show wd (8 * 3 + 2) = nI 101 from hW 26 (by decide), show wd (8 * 3 + 3) = nI 101 from hW 27 (by decide), show wd (8 * 3 + 4) = nI 100 from hW 28 (by decide), show wd (8 * 3 + 5) = nI 32 from hW 29 (by decide), show wd (8 * 3 + 6) = nI 32 from hW 30 (by decide), show wd (8 * 3 + 7) = nI 32 from hW 31 (by decide)]
    rw [nI_x (a := 115) (x := 96 + x0) (by decide) (by omega), nI_x (a := 112) (x := 32) (by decide) (by omega), nI_x (a := 101) (x := 32) (by decide) (by omega), nI_x (a := 100) (x := 32) (by decide) (by omega), nI_x (a := 32) (x := 32) (by decide) (by omega)]
    omega
  · rw [zLk_iff]
    rw [zCh_l (L := 1) (c := 0) (by decide) e0, zCh_s (L := 1) (c := 1) (by decide), zCh_s (L := 1) (c := 2) (by decide), zCh_s (L := 1) (c := 3) (by decide), zCh_s (L := 1) (c := 4) (by decide), zCh_s (L := 1) (c := 5) (by decide), zCh_s (L := 1) (c := 6) (by decide), zCh_s (L := 1) (c := 7) (by decide)]
    rw [show wd (8 * 4 + 0) = nI 99 from hW 32 (by decide), show wd (8 * 4 + 1) = nI 97 from hW 33 (by decide), show wd (8 * 4 + 2) = nI 107 from hW 34 (by decide), show wd (8 * 4 + 3) = nI 101 from hW 35 (by decide), show wd (8 * 4 + 4) = nI 32 from hW 36 (by decide), show wd (8 * 4 + 5) = nI 32 from hW 37 (by decide), show wd (8 * 4 + 6) = nI 32 from hW 38 (by decide), show wd (8 * 4 + 7) = nI 32 from hW 39 (by decide)]
    rw [nI_x (a := 99) (x := 96 + x0) (by decide) (by omega), nI_x (a := 97) (x := 32) (by decide) (by omega), nI_x (a := 107) (x := 32) (by decide) (by omega), nI_x (a := 101) (x := 32) (by decide) (by omega), nI_x (a := 32) (x := 32) (by decide) (by omega)]
    omega
  · rw [zLk_iff]
    rw [zCh_l (L := 1) (c := 0) (by decide) e0, zCh_s (L := 1) (c := 1) (by decide), zCh_s (L := 1) (c := 2) (by decide), zCh_s (L := 1) (c := 3) (by decide), zCh_s (L := 1) (c := 4) (by decide), zCh_s (L := 1) (c := 5) (by decide), zCh_s (L := 1) (c := 6) (by decide), zCh_s (L := 1) (c := 7) (by decide)]
    rw [show wd (8 * 5 + 0) = nI 117 from hW 40 (by decide), show wd (8 * 5 + 1) = nI 115 from hW 41 (by decide), show wd (8 * 5 + 2) = nI 101 from hW 42 (by decide), show wd (8 * 5 + 3) = nI 100 from hW 43 (by decide), show wd (8 * 5 + 4) = nI 32 from hW 44 (by decide), show wd (8 * 5 + 5) = nI 32 from hW 45 (by decide), show wd (8 * 5 + 6) = nI 32 from hW 46 (by decide), show wd (8 * 5 + 7) = nI 32 from hW 47 (by decide)]
    rw [nI_x (a := 117) (x := 96 + x0) (by decide) (by omega), nI_x (a := 115) (x := 32) (by decide) (by omega), nI_x (a := 101) (x := 32) (by decide) (by omega), nI_x (a := 100) (x := 32) (by decide) (by omega), nI_x (a := 32) (x := 32) (by decide) (by omega)]
    omega
  · rw [zLk_iff]
    rw [zCh_l (L := 1) (c := 0) (by decide) e0, zCh_s (L := 1) (c := 1) (by decide), zCh_s (L := 1) (c := 2) (by decide), zCh_s (L := 1) (c := 3) (by decide), zCh_s (L := 1) (c := 4) (by decide), zCh_s (L := 1) (c := 5) (by decide), zCh_s (L := 1) (c := 6) (by decide), zCh_s (L := 1) (c := 7) (by decide)]
    rw [show wd (8 * 6 + 0) = nI 109 from hW 48 (by decide), show wd (8 * 6 + 1) = nI 111 from hW 49 (by decide), show wd (8 * 6 + 2) = nI 114 from hW 50 (by decide), show wd (8 * 6 + 3) = nI 101 from hW 51 (by decide), show wd (8 * 6 + 4) = nI 32 from hW 52 (by decide), show wd (8 * 6 + 5) = nI 32 from hW 53 (by decide), show wd (8 * 6 + 6) = nI 32 from hW 54 (by decide), show wd (8 * 6 + 7) = nI 32 from hW 55 (by decide)]
    rw [nI_x (a := 109) (x := 96 + x0) (by decide) (by omega), nI_x (a := 111) (x := 32) (by decide) (by omega), nI_x (a := 114) (x := 32) (by decide) (by omega), nI_x (a := 101) (x := 32) (by decide) (by omega), nI_x (a := 32) (x := 32) (by decide) (by omega)]
    omega
  · rw [zLk_iff]
    rw [zCh_l (L := 1) (c := 0) (by decide) e0, zCh_s (L := 1) (c := 1) (by decide), zCh_s (L := 1) (c := 2) (by decide), zCh_s (L := 1) (c := 3) (by decide), zCh_s (L := 1) (c := 4) (by decide), zCh_s (L := 1) (c := 5) (by decide), zCh_s (L := 1) (c := 6) (by decide), zCh_s (L := 1) (c := 7) (by decide)]
    rw [show wd (8 * 7 + 0) = nI 115 from hW 56 (by decide), show wd (8 * 7 + 1) = nI 101 from hW 57 (by decide), show wd (8 * 7 + 2) = nI 110 from hW 58 (by decide), show wd (8 * 7 + 3) = nI 115 from hW 59 (by decide), show wd (8 * 7 + 4) = nI 101 from hW 60 (by decide), show wd (8 * 7 + 5) = nI 32 from hW 61 (by decide), show wd (8 * 7 + 6) = nI 32 from hW 62 (by decide), show wd (8 * 7 + 7) = nI 32 from hW 63 (by decide)]
    rw [nI_x (a := 115) (x := 96 + x0) (by decide) (by omega), nI_x (a := 101) (x := 32) (by decide) (by omega), nI_x (a := 110) (x := 32) (by decide) (by omega), nI_x (a := 115) (x := 32) (by decide) (by omega), nI_x (a := 32) (x := 32) (by decide) (by omega)]
    omega
  · rw [zLk_iff]
    rw [zCh_l (L := 1) (c := 0) (by decide) e0, zCh_s (L := 1) (c := 1) (by decide), zCh_s (L := 1) (c := 2) (by decide), zCh_s (L := 1) (c := 3) (by decide), zCh_s (L := 1) (c := 4) (by decide), zCh_s (L := 1) (c := 5) (by decide), zCh_s (L := 1) (c := 6) (by decide), zCh_s (L := 1) (c := 7) (by decide)]
    rw [show wd (8 * 8 + 0) = nI 101 from hW 64 (by decide), show wd (8 * 8 + 1) = nI 121 from hW 65 (by decide), show wd (8 * 8 + 2) = nI 101 from hW 66 (by decide), show wd (8 * 8 + 3) = nI 115 from hW 67 (by decide), show wd (8 * 8 + 4) = nI 32 from hW 68 (by decide), show wd (8 * 8 + 5) = nI 32 from hW 69 (by decide), show wd (8 * 8 + 6) = nI 32 from hW 70 (by decide), show wd (8 * 8 + 7) = nI 32 from hW 71 (by decide)]
    rw [nI_x (a := 101) (x := 96 + x0) (by decide) (by omega), nI_x (a := 121) (x := 32) (by decide) (by omega), nI_x (a := 101) (x := 32) (by decide) (by omega), nI_x (a := 115) (x := 32) (by decide) (by omega), nI_x (a := 32) (x := 32) (by decide) (by omega)]
    omega
  · rw [zLk_iff]
    rw [zCh_l (L := 1) (c := 0) (by decide) e0, zCh_s (L := 1) (c := 1) (by decide), zCh_s (L := 1) (c := 2) (by decide), zCh_s (L := 1) (c := 3) (by decide), zCh_s (L := 1) (c := 4) (by decide), zCh_s (L := 1) (c := 5) (by decide), zCh_s (L := 1) (c := 6) (by decide), zCh_s (L := 1) (c := 7) (by decide)]
    rw [show wd (8 * 9 + 0) = nI 111 from hW 72 (by decide), show wd (8 * 9 + 1) = nI 114 from hW 73 (by decide), show wd (8 * 9 + 2) = nI 32 from hW 74 (by decide), show wd (8 * 9 + 3) = nI 32 from hW 75 (by decide), show wd (8 * 9 + 4) = nI 32 from hW 76 (by decide), show wd (8 * 9 + 5) = nI 32 from hW 77 (by decide), show wd (8 * 9 + 6) = nI 32 from hW 78 (by decide), show wd (8 * 9 + 7) = nI 32 from hW 79 (by decide)]
    rw [nI_x (a := 111) (x := 96 + x0) (by decide) (by omega), nI_x (a := 114) (x := 32) (by decide) (by omega), nI_x (a := 32) (x := 32) (by decide) (by omega)]
    omega
  · rw [zLk_iff]
    rw [zCh_l (L := 1) (c := 0) (by decide) e0, zCh_s (L := 1) (c := 1) (by decide), zCh_s (L := 1) (c := 2) (by decide), zCh_s (L := 1) (c := 3) (by decide), zCh_s (L := 1) (c := 4) (by decide), zCh_s (L := 1) (c := 5) (by decide), zCh_s (L := 1) (c := 6) (by decide), zCh_s (L := 1) (c := 7) (by decide)]
    rw [show wd (8 * 10 + 0) = nI 97 from hW 80 (by decide), show wd (8 * 10 + 1) = nI 110 from hW 81 (by decide), show wd (8 * 10 + 2) = nI 100 from hW 82 (by decide), show wd (8 * 10 + 3) = nI 32 from hW 83 (by decide), show wd (8 * 10 + 4) = nI 32 from hW 84 (by decide), show wd (8 * 10 + 5) = nI 32 from hW 85 (by decide), show wd (8 * 10 + 6) = nI 32 from hW 86 (by decide), show wd (8 * 10 + 7) = nI 32 from hW 87 (by decide)]
    rw [nI_x (a := 97) (x := 96 + x0) (by decide) (by omega), nI_x (a := 110) (x := 32) (by decide) (by omega), nI_x (a := 100) (x := 32) (by decide) (by omega), nI_x (a := 32) (x := 32) (by decide) (by omega)]
    omega
  · rw [zLk_iff]
    rw [zCh_l (L := 1) (c := 0) (by decide) e0, zCh_s (L := 1) (c := 1) (by decide), zCh_s (L := 1) (c := 2) (by decide), zCh_s (L := 1) (c := 3) (by decide), zCh_s (L := 1) (c := 4) (by decide), zCh_s (L := 1) (c := 5) (by decide), zCh_s (L := 1) (c := 6) (by decide), zCh_s (L := 1) (c := 7) (by decide)]
    rw [show wd (8 * 11 + 0) = nI 110 from hW 88 (by decide), show wd (8 * 11 + 1) = nI 111 from hW 89 (by decide), show wd (8 * 11 + 2) = nI 116 from hW 90 (by decide), show wd (8 * 11 + 3) = nI 32 from hW 91 (by decide), show wd (8 * 11 + 4) = nI 32 from hW 92 (by decide), show wd (8 * 11 + 5) = nI 32 from hW 93 (by decide), show wd (8 * 11 + 6) = nI 32 from hW 94 (by decide), show wd (8 * 11 + 7) = nI 32 from hW 95 (by decide)]
    rw [nI_x (a := 110) (x := 96 + x0) (by decide) (by omega), nI_x (a := 111) (x := 32) (by decide) (by omega), nI_x (a := 116) (x := 32) (by decide) (by omega), nI_x (a := 32) (x := 32) (by decide) (by omega)]
    omega
theorem lex_2 (wd g : Nat → Int32) (n q : Nat) (hW : ∀ j, j < 96 → wd j = zWd j) (hl : zLet g q 2) (hn : q + 2 ≤ n) : ∃ V, V < 2 ^ 31 ∧ wNum g n q 2 = lN V ∧ (zLk wd g q (q + 2) 0 8 = true ↔ V = 89436307) ∧ (zLk wd g q (q + 2) 1 8 = true ↔ V = 6328499) ∧ (zLk wd g q (q + 2) 2 8 = true ↔ V = 2275475) ∧ (zLk wd g q (q + 2) 3 8 = true ↔ V = 20452516) ∧ (zLk wd g q (q + 2) 4 8 = true ↔ V = 99685) ∧ (zLk wd g q (q + 2) 5 8 = true ↔ V = 707748) ∧ (zLk wd g q (q + 2) 6 8 = true ↔ V = 441925) ∧ (zLk wd g q (q + 2) 7 8 = true ↔ V = 20101733) ∧ (zLk wd g q (q + 2) 8 8 = true ↔ V = 189619) ∧ (zLk wd g q (q + 2) 9 8 = true ↔ V = 498) ∧ (zLk wd g q (q + 2) 10 8 = true ↔ V = 1476) ∧ (zLk wd g q (q + 2) 11 8 = true ↔ V = 14836) := by
  obtain ⟨x0, e0, a0, b0⟩ := lt_x (hl 0 (by decide))
  obtain ⟨x1, e1, a1, b1⟩ := lt_x (hl 1 (by decide))
  have w0 : wNum g n q 0 = lN 0 := rfl
  have w1 := wN_step w0 (by decide) (by omega) e0 a0 b0
  have w2 := wN_step w1 (by decide) (by omega) e1 a1 b1
  refine ⟨(0 * 32 + x0) * 32 + x1, by omega, w2, ?_, ?_, ?_, ?_, ?_, ?_, ?_, ?_, ?_, ?_, ?_, ?_⟩
  · rw [zLk_iff]
    rw [zCh_l (L := 2) (c := 0) (by decide) e0, zCh_l (L := 2) (c := 1) (by decide) e1, zCh_s (L := 2) (c := 2) (by decide), zCh_s (L := 2) (c := 3) (by decide), zCh_s (L := 2) (c := 4) (by decide), zCh_s (L := 2) (c := 5) (by decide), zCh_s (L := 2) (c := 6) (by decide), zCh_s (L := 2) (c := 7) (by decide)]
    rw [show wd (8 * 0 + 0) = nI 98 from hW 0 (by decide), show wd (8 * 0 + 1) = nI 117 from hW 1 (by decide), show wd (8 * 0 + 2) = nI 105 from hW 2 (by decide), show wd (8 * 0 + 3) = nI 108 from hW 3 (by decide), show wd (8 * 0 + 4) = nI 100 from hW 4 (by decide), show wd (8 * 0 + 5) = nI 115 from hW 5 (by decide), show wd (8 * 0 + 6) = nI 32 from hW 6 (by decide), show wd (8 * 0 + 7) = nI 32 from hW 7 (by decide)]
    rw [nI_x (a := 98) (x := 96 + x0) (by decide) (by omega), nI_x (a := 117) (x := 96 + x1) (by decide) (by omega), nI_x (a := 105) (x := 32) (by decide) (by omega), nI_x (a := 108) (x := 32) (by decide) (by omega), nI_x (a := 100) (x := 32) (by decide) (by omega), nI_x (a := 115) (x := 32) (by decide) (by omega), nI_x (a := 32) (x := 32) (by decide) (by omega)]
    omega
  · rw [zLk_iff]
    rw [zCh_l (L := 2) (c := 0) (by decide) e0, zCh_l (L := 2) (c := 1) (by decide) e1, zCh_s (L := 2) (c := 2) (by decide), zCh_s (L := 2) (c := 3) (by decide), zCh_s (L := 2) (c := 4) (by decide), zCh_s (L := 2) (c := 5) (by decide), zCh_s (L := 2) (c := 6) (by decide), zCh_s (L := 2) (c := 7) (by decide)]
    rw [show wd (8 * 1 + 0) = nI 102 from hW 8 (by decide), show wd (8 * 1 + 1) = nI 97 from hW 9 (by decide), show wd (8 * 1 + 2) = nI 100 from hW 10 (by decide), show wd (8 * 1 + 3) = nI 101 from hW 11 (by decide), show wd (8 * 1 + 4) = nI 115 from hW 12 (by decide), show wd (8 * 1 + 5) = nI 32 from hW 13 (by decide), show wd (8 * 1 + 6) = nI 32 from hW 14 (by decide), show wd (8 * 1 + 7) = nI 32 from hW 15 (by decide)]
    rw [nI_x (a := 102) (x := 96 + x0) (by decide) (by omega), nI_x (a := 97) (x := 96 + x1) (by decide) (by omega), nI_x (a := 100) (x := 32) (by decide) (by omega), nI_x (a := 101) (x := 32) (by decide) (by omega), nI_x (a := 115) (x := 32) (by decide) (by omega), nI_x (a := 32) (x := 32) (by decide) (by omega)]
    omega
  · rw [zLk_iff]
    rw [zCh_l (L := 2) (c := 0) (by decide) e0, zCh_l (L := 2) (c := 1) (by decide) e1, zCh_s (L := 2) (c := 2) (by decide), zCh_s (L := 2) (c := 3) (by decide), zCh_s (L := 2) (c := 4) (by decide), zCh_s (L := 2) (c := 5) (by decide), zCh_s (L := 2) (c := 6) (by decide), zCh_s (L := 2) (c := 7) (by decide)]
    rw [show wd (8 * 2 + 0) = nI 98 from hW 16 (by decide), show wd (8 * 2 + 1) = nI 101 from hW 17 (by decide), show wd (8 * 2 + 2) = nI 110 from hW 18 (by decide), show wd (8 * 2 + 3) = nI 100 from hW 19 (by decide), show wd (8 * 2 + 4) = nI 115 from hW 20 (by decide), show wd (8 * 2 + 5) = nI 32 from hW 21 (by decide), show wd (8 * 2 + 6) = nI 32 from hW 22 (by decide), show wd (8 * 2 + 7) = nI 32 from hW 23 (by decide)]
    rw [nI_x (a := 98) (x := 96 + x0) (by decide) (by omega), nI_x (a := 101) (x := 96 + x1) (by decide) (by omega), nI_x (a := 110) (x := 32) (by decide) (by omega), nI_x (a := 100) (x := 32) (by decide) (by omega), nI_x (a := 115) (x := 32) (by decide) (by omega), nI_x (a := 32) (x := 32) (by decide) (by omega)]
    omega
  · rw [zLk_iff]
    rw [zCh_l (L := 2) (c := 0) (by decide) e0, zCh_l (L := 2) (c := 1) (by decide) e1, zCh_s (L := 2) (c := 2) (by decide), zCh_s (L := 2) (c := 3) (by decide), zCh_s (L := 2) (c := 4) (by decide), zCh_s (L := 2) (c := 5) (by decide), zCh_s (L := 2) (c := 6) (by decide), zCh_s (L := 2) (c := 7) (by decide)]
    rw [show wd (8 * 3 + 0) = nI 115 from hW 24 (by decide), show wd (8 * 3 + 1) = nI 112 from hW 25 (by decide), show wd (8 * 3 + 2) = nI 101 from hW 26 (by decide), show wd (8 * 3 + 3) = nI 101 from hW 27 (by decide), show wd (8 * 3 + 4) = nI 100 from hW 28 (by decide), show wd (8 * 3 + 5) = nI 32 from hW 29 (by decide), show wd (8 * 3 + 6) = nI 32 from hW 30 (by decide), show wd (8 * 3 + 7) = nI 32 from hW 31 (by decide)]
    rw [nI_x (a := 115) (x := 96 + x0) (by decide) (by omega), nI_x (a := 112) (x := 96 + x1) (by decide) (by omega), nI_x (a := 101) (x := 32) (by decide) (by omega), nI_x (a := 100) (x := 32) (by decide) (by omega), nI_x (a := 32) (x := 32) (by decide) (by omega)]
    omega
  · rw [zLk_iff]
    rw [zCh_l (L := 2) (c := 0) (by decide) e0, zCh_l (L := 2) (c := 1) (by decide) e1, zCh_s (L := 2) (c := 2) (by decide), zCh_s (L := 2) (c := 3) (by decide), zCh_s (L := 2) (c := 4) (by decide), zCh_s (L := 2) (c := 5) (by decide), zCh_s (L := 2) (c := 6) (by decide), zCh_s (L := 2) (c := 7) (by decide)]
    rw [show wd (8 * 4 + 0) = nI 99 from hW 32 (by decide), show wd (8 * 4 + 1) = nI 97 from hW 33 (by decide), show wd (8 * 4 + 2) = nI 107 from hW 34 (by decide), show wd (8 * 4 + 3) = nI 101 from hW 35 (by decide), show wd (8 * 4 + 4) = nI 32 from hW 36 (by decide), show wd (8 * 4 + 5) = nI 32 from hW 37 (by decide), show wd (8 * 4 + 6) = nI 32 from hW 38 (by decide), show wd (8 * 4 + 7) = nI 32 from hW 39 (by decide)]
    rw [nI_x (a := 99) (x := 96 + x0) (by decide) (by omega), nI_x (a := 97) (x := 96 + x1) (by decide) (by omega), nI_x (a := 107) (x := 32) (by decide) (by omega), nI_x (a := 101) (x := 32) (by decide) (by omega), nI_x (a := 32) (x := 32) (by decide) (by omega)]
    omega
  · rw [zLk_iff]
    rw [zCh_l (L := 2) (c := 0) (by decide) e0, zCh_l (L := 2) (c := 1) (by decide) e1, zCh_s (L := 2) (c := 2) (by decide), zCh_s (L := 2) (c := 3) (by decide), zCh_s (L := 2) (c := 4) (by decide), zCh_s (L := 2) (c := 5) (by decide), zCh_s (L := 2) (c := 6) (by decide), zCh_s (L := 2) (c := 7) (by decide)]
    rw [show wd (8 * 5 + 0) = nI 117 from hW 40 (by decide), show wd (8 * 5 + 1) = nI 115 from hW 41 (by decide), show wd (8 * 5 + 2) = nI 101 from hW 42 (by decide), show wd (8 * 5 + 3) = nI 100 from hW 43 (by decide), show wd (8 * 5 + 4) = nI 32 from hW 44 (by decide), show wd (8 * 5 + 5) = nI 32 from hW 45 (by decide), show wd (8 * 5 + 6) = nI 32 from hW 46 (by decide), show wd (8 * 5 + 7) = nI 32 from hW 47 (by decide)]
    rw [nI_x (a := 117) (x := 96 + x0) (by decide) (by omega), nI_x (a := 115) (x := 96 + x1) (by decide) (by omega), nI_x (a := 101) (x := 32) (by decide) (by omega), nI_x (a := 100) (x := 32) (by decide) (by omega), nI_x (a := 32) (x := 32) (by decide) (by omega)]
    omega
  · rw [zLk_iff]
    rw [zCh_l (L := 2) (c := 0) (by decide) e0, zCh_l (L := 2) (c := 1) (by decide) e1, zCh_s (L := 2) (c := 2) (by decide), zCh_s (L := 2) (c := 3) (by decide), zCh_s (L := 2) (c := 4) (by decide), zCh_s (L := 2) (c := 5) (by decide), zCh_s (L := 2) (c := 6) (by decide), zCh_s (L := 2) (c := 7) (by decide)]
    rw [show wd (8 * 6 + 0) = nI 109 from hW 48 (by decide), show wd (8 * 6 + 1) = nI 111 from hW 49 (by decide), show wd (8 * 6 + 2) = nI 114 from hW 50 (by decide), show wd (8 * 6 + 3) = nI 101 from hW 51 (by decide), show wd (8 * 6 + 4) = nI 32 from hW 52 (by decide), show wd (8 * 6 + 5) = nI 32 from hW 53 (by decide), show wd (8 * 6 + 6) = nI 32 from hW 54 (by decide), show wd (8 * 6 + 7) = nI 32 from hW 55 (by decide)]
    rw [nI_x (a := 109) (x := 96 + x0) (by decide) (by omega), nI_x (a := 111) (x := 96 + x1) (by decide) (by omega), nI_x (a := 114) (x := 32) (by decide) (by omega), nI_x (a := 101) (x := 32) (by decide) (by omega), nI_x (a := 32) (x := 32) (by decide) (by omega)]
    omega
  · rw [zLk_iff]
    rw [zCh_l (L := 2) (c := 0) (by decide) e0, zCh_l (L := 2) (c := 1) (by decide) e1, zCh_s (L := 2) (c := 2) (by decide), zCh_s (L := 2) (c := 3) (by decide), zCh_s (L := 2) (c := 4) (by decide), zCh_s (L := 2) (c := 5) (by decide), zCh_s (L := 2) (c := 6) (by decide), zCh_s (L := 2) (c := 7) (by decide)]
    rw [show wd (8 * 7 + 0) = nI 115 from hW 56 (by decide), show wd (8 * 7 + 1) = nI 101 from hW 57 (by decide), show wd (8 * 7 + 2) = nI 110 from hW 58 (by decide), show wd (8 * 7 + 3) = nI 115 from hW 59 (by decide), show wd (8 * 7 + 4) = nI 101 from hW 60 (by decide), show wd (8 * 7 + 5) = nI 32 from hW 61 (by decide), show wd (8 * 7 + 6) = nI 32 from hW 62 (by decide), show wd (8 * 7 + 7) = nI 32 from hW 63 (by decide)]
    rw [nI_x (a := 115) (x := 96 + x0) (by decide) (by omega), nI_x (a := 101) (x := 96 + x1) (by decide) (by omega), nI_x (a := 110) (x := 32) (by decide) (by omega), nI_x (a := 115) (x := 32) (by decide) (by omega), nI_x (a := 101) (x := 32) (by decide) (by omega), nI_x (a := 32) (x := 32) (by decide) (by omega)]
    omega
  · rw [zLk_iff]
    rw [zCh_l (L := 2) (c := 0) (by decide) e0, zCh_l (L := 2) (c := 1) (by decide) e1, zCh_s (L := 2) (c := 2) (by decide), zCh_s (L := 2) (c := 3) (by decide), zCh_s (L := 2) (c := 4) (by decide), zCh_s (L := 2) (c := 5) (by decide), zCh_s (L := 2) (c := 6) (by decide), zCh_s (L := 2) (c := 7) (by decide)]
    rw [show wd (8 * 8 + 0) = nI 101 from hW 64 (by decide), show wd (8 * 8 + 1) = nI 121 from hW 65 (by decide), show wd (8 * 8 + 2) = nI 101 from hW 66 (by decide), show wd (8 * 8 + 3) = nI 115 from hW 67 (by decide), show wd (8 * 8 + 4) = nI 32 from hW 68 (by decide), show wd (8 * 8 + 5) = nI 32 from hW 69 (by decide), show wd (8 * 8 + 6) = nI 32 from hW 70 (by decide), show wd (8 * 8 + 7) = nI 32 from hW 71 (by decide)]
    rw [nI_x (a := 101) (x := 96 + x0) (by decide) (by omega), nI_x (a := 121) (x := 96 + x1) (by decide) (by omega), nI_x (a := 101) (x := 32) (by decide) (by omega), nI_x (a := 115) (x := 32) (by decide) (by omega), nI_x (a := 32) (x := 32) (by decide) (by omega)]
    omega
  · rw [zLk_iff]
    rw [zCh_l (L := 2) (c := 0) (by decide) e0, zCh_l (L := 2) (c := 1) (by decide) e1, zCh_s (L := 2) (c := 2) (by decide), zCh_s (L := 2) (c := 3) (by decide), zCh_s (L := 2) (c := 4) (by decide), zCh_s (L := 2) (c := 5) (by decide), zCh_s (L := 2) (c := 6) (by decide), zCh_s (L := 2) (c := 7) (by decide)]
    rw [show wd (8 * 9 + 0) = nI 111 from hW 72 (by decide), show wd (8 * 9 + 1) = nI 114 from hW 73 (by decide), show wd (8 * 9 + 2) = nI 32 from hW 74 (by decide), show wd (8 * 9 + 3) = nI 32 from hW 75 (by decide), show wd (8 * 9 + 4) = nI 32 from hW 76 (by decide), show wd (8 * 9 + 5) = nI 32 from hW 77 (by decide), show wd (8 * 9 + 6) = nI 32 from hW 78 (by decide), show wd (8 * 9 + 7) = nI 32 from hW 79 (by decide)]
    rw [nI_x (a := 111) (x := 96 + x0) (by decide) (by omega), nI_x (a := 114) (x := 96 + x1) (by decide) (by omega), nI_x (a := 32) (x := 32) (by decide) (by omega)]
    omega
  · rw [zLk_iff]
    rw [zCh_l (L := 2) (c := 0) (by decide) e0, zCh_l (L := 2) (c := 1) (by decide) e1, zCh_s (L := 2) (c := 2) (by decide), zCh_s (L := 2) (c := 3) (by decide), zCh_s (L := 2) (c := 4) (by decide), zCh_s (L := 2) (c := 5) (by decide), zCh_s (L := 2) (c := 6) (by decide), zCh_s (L := 2) (c := 7) (by decide)]
    rw [show wd (8 * 10 + 0) = nI 97 from hW 80 (by decide), show wd (8 * 10 + 1) = nI 110 from hW 81 (by decide), show wd (8 * 10 + 2) = nI 100 from hW 82 (by decide), show wd (8 * 10 + 3) = nI 32 from hW 83 (by decide), show wd (8 * 10 + 4) = nI 32 from hW 84 (by decide), show wd (8 * 10 + 5) = nI 32 from hW 85 (by decide), show wd (8 * 10 + 6) = nI 32 from hW 86 (by decide), show wd (8 * 10 + 7) = nI 32 from hW 87 (by decide)]
    rw [nI_x (a := 97) (x := 96 + x0) (by decide) (by omega), nI_x (a := 110) (x := 96 + x1) (by decide) (by omega), nI_x (a := 100) (x := 32) (by decide) (by omega), nI_x (a := 32) (x := 32) (by decide) (by omega)]
    omega
  · rw [zLk_iff]
    rw [zCh_l (L := 2) (c := 0) (by decide) e0, zCh_l (L := 2) (c := 1) (by decide) e1, zCh_s (L := 2) (c := 2) (by decide), zCh_s (L := 2) (c := 3) (by decide), zCh_s (L := 2) (c := 4) (by decide), zCh_s (L := 2) (c := 5) (by decide), zCh_s (L := 2) (c := 6) (by decide), zCh_s (L := 2) (c := 7) (by decide)]
    rw [show wd (8 * 11 + 0) = nI 110 from hW 88 (by decide), show wd (8 * 11 + 1) = nI 111 from hW 89 (by decide), show wd (8 * 11 + 2) = nI 116 from hW 90 (by decide), show wd (8 * 11 + 3) = nI 32 from hW 91 (by decide), show wd (8 * 11 + 4) = nI 32 from hW 92 (by decide), show wd (8 * 11 + 5) = nI 32 from hW 93 (by decide), show wd (8 * 11 + 6) = nI 32 from hW 94 (by decide), show wd (8 * 11 + 7) = nI 32 from hW 95 (by decide)]
    rw [nI_x (a := 110) (x := 96 + x0) (by decide) (by omega), nI_x (a := 111) (x := 96 + x1) (by decide) (by omega), nI_x (a := 116) (x := 32) (by decide) (by omega), nI_x (a := 32) (x := 32) (by decide) (by omega)]
    omega
theorem lex_3 (wd g : Nat → Int32) (n q : Nat) (hW : ∀ j, j < 96 → wd j = zWd j) (hl : zLet g q 3) (hn : q + 3 ≤ n) : ∃ V, V < 2 ^ 31 ∧ wNum g n q 3 = lN V ∧ (zLk wd g q (q + 3) 0 8 = true ↔ V = 89436307) ∧ (zLk wd g q (q + 3) 1 8 = true ↔ V = 6328499) ∧ (zLk wd g q (q + 3) 2 8 = true ↔ V = 2275475) ∧ (zLk wd g q (q + 3) 3 8 = true ↔ V = 20452516) ∧ (zLk wd g q (q + 3) 4 8 = true ↔ V = 99685) ∧ (zLk wd g q (q + 3) 5 8 = true ↔ V = 707748) ∧ (zLk wd g q (q + 3) 6 8 = true ↔ V = 441925) ∧ (zLk wd g q (q + 3) 7 8 = true ↔ V = 20101733) ∧ (zLk wd g q (q + 3) 8 8 = true ↔ V = 189619) ∧ (zLk wd g q (q + 3) 9 8 = true ↔ V = 498) ∧ (zLk wd g q (q + 3) 10 8 = true ↔ V = 1476) ∧ (zLk wd g q (q + 3) 11 8 = true ↔ V = 14836) := by
  obtain ⟨x0, e0, a0, b0⟩ := lt_x (hl 0 (by decide))
  obtain ⟨x1, e1, a1, b1⟩ := lt_x (hl 1 (by decide))
  obtain ⟨x2, e2, a2, b2⟩ := lt_x (hl 2 (by decide))
  have w0 : wNum g n q 0 = lN 0 := rfl
  have w1 := wN_step w0 (by decide) (by omega) e0 a0 b0
  have w2 := wN_step w1 (by decide) (by omega) e1 a1 b1
  have w3 := wN_step w2 (by decide) (by omega) e2 a2 b2
  refine ⟨((0 * 32 + x0) * 32 + x1) * 32 + x2, by omega, w3, ?_, ?_, ?_, ?_, ?_, ?_, ?_, ?_, ?_, ?_, ?_, ?_⟩
  · rw [zLk_iff]
    rw [zCh_l (L := 3) (c := 0) (by decide) e0, zCh_l (L := 3) (c := 1) (by decide) e1, zCh_l (L := 3) (c := 2) (by decide) e2, zCh_s (L := 3) (c := 3) (by decide), zCh_s (L := 3) (c := 4) (by decide), zCh_s (L := 3) (c := 5) (by decide), zCh_s (L := 3) (c := 6) (by decide), zCh_s (L := 3) (c := 7) (by decide)]
    rw [show wd (8 * 0 + 0) = nI 98 from hW 0 (by decide), show wd (8 * 0 + 1) = nI 117 from hW 1 (by decide), show wd (8 * 0 + 2) = nI 105 from hW 2 (by decide), show wd (8 * 0 + 3) = nI 108 from hW 3 (by decide), show wd (8 * 0 + 4) = nI 100 from hW 4 (by decide), show wd (8 * 0 + 5) = nI 115 from hW 5 (by decide), show wd (8 * 0 + 6) = nI 32 from hW 6 (by decide), show wd (8 * 0 + 7) = nI 32 from hW 7 (by decide)]
    rw [nI_x (a := 98) (x := 96 + x0) (by decide) (by omega), nI_x (a := 117) (x := 96 + x1) (by decide) (by omega), nI_x (a := 105) (x := 96 + x2) (by decide) (by omega), nI_x (a := 108) (x := 32) (by decide) (by omega), nI_x (a := 100) (x := 32) (by decide) (by omega), nI_x (a := 115) (x := 32) (by decide) (by omega), nI_x (a := 32) (x := 32) (by decide) (by omega)]
    omega
  · rw [zLk_iff]
    rw [zCh_l (L := 3) (c := 0) (by decide) e0, zCh_l (L := 3) (c := 1) (by decide) e1, zCh_l (L := 3) (c := 2) (by decide) e2, zCh_s (L := 3) (c := 3) (by decide), zCh_s (L := 3) (c := 4) (by decide), zCh_s (L := 3) (c := 5) (by decide), zCh_s (L := 3) (c := 6) (by decide), zCh_s (L := 3) (c := 7) (by decide)]
    rw [show wd (8 * 1 + 0) = nI 102 from hW 8 (by decide), show wd (8 * 1 + 1) = nI 97 from hW 9 (by decide), show wd (8 * 1 + 2) = nI 100 from hW 10 (by decide), show wd (8 * 1 + 3) = nI 101 from hW 11 (by decide), show wd (8 * 1 + 4) = nI 115 from hW 12 (by decide), show wd (8 * 1 + 5) = nI 32 from hW 13 (by decide), show wd (8 * 1 + 6) = nI 32 from hW 14 (by decide), show wd (8 * 1 + 7) = nI 32 from hW 15 (by decide)]
    rw [nI_x (a := 102) (x := 96 + x0) (by decide) (by omega), nI_x (a := 97) (x := 96 + x1) (by decide) (by omega), nI_x (a := 100) (x := 96 + x2) (by decide) (by omega), nI_x (a := 101) (x := 32) (by decide) (by omega), nI_x (a := 115) (x := 32) (by decide) (by omega), nI_x (a := 32) (x := 32) (by decide) (by omega)]
    omega
  · rw [zLk_iff]
    rw [zCh_l (L := 3) (c := 0) (by decide) e0, zCh_l (L := 3) (c := 1) (by decide) e1, zCh_l (L := 3) (c := 2) (by decide) e2, zCh_s (L := 3) (c := 3) (by decide), zCh_s (L := 3) (c := 4) (by decide), zCh_s (L := 3) (c := 5) (by decide), zCh_s (L := 3) (c := 6) (by decide), zCh_s (L := 3) (c := 7) (by decide)]
    rw [show wd (8 * 2 + 0) = nI 98 from hW 16 (by decide), show wd (8 * 2 + 1) = nI 101 from hW 17 (by decide), show wd (8 * 2 + 2) = nI 110 from hW 18 (by decide), show wd (8 * 2 + 3) = nI 100 from hW 19 (by decide), show wd (8 * 2 + 4) = nI 115 from hW 20 (by decide), show wd (8 * 2 + 5) = nI 32 from hW 21 (by decide), show wd (8 * 2 + 6) = nI 32 from hW 22 (by decide), show wd (8 * 2 + 7) = nI 32 from hW 23 (by decide)]
    rw [nI_x (a := 98) (x := 96 + x0) (by decide) (by omega), nI_x (a := 101) (x := 96 + x1) (by decide) (by omega), nI_x (a := 110) (x := 96 + x2) (by decide) (by omega), nI_x (a := 100) (x := 32) (by decide) (by omega), nI_x (a := 115) (x := 32) (by decide) (by omega), nI_x (a := 32) (x := 32) (by decide) (by omega)]
    omega
  · rw [zLk_iff]
    rw [zCh_l (L := 3) (c := 0) (by decide) e0, zCh_l (L := 3) (c := 1) (by decide) e1, zCh_l (L := 3) (c := 2) (by decide) e2, zCh_s (L := 3) (c := 3) (by decide), zCh_s (L := 3) (c := 4) (by decide), zCh_s (L := 3) (c := 5) (by decide), zCh_s (L := 3) (c := 6) (by decide), zCh_s (L := 3) (c := 7) (by decide)]
    rw [show wd (8 * 3 + 0) = nI 115 from hW 24 (by decide), show wd (8 * 3 + 1) = nI 112 from hW 25 (by decide), show wd (8 * 3 + 2) = nI 101 from hW 26 (by decide), show wd (8 * 3 + 3) = nI 101 from hW 27 (by decide), show wd (8 * 3 + 4) = nI 100 from hW 28 (by decide), show wd (8 * 3 + 5) = nI 32 from hW 29 (by decide), show wd (8 * 3 + 6) = nI 32 from hW 30 (by decide), show wd (8 * 3 + 7) = nI 32 from hW 31 (by decide)]
    rw [nI_x (a := 115) (x := 96 + x0) (by decide) (by omega), nI_x (a := 112) (x := 96 + x1) (by decide) (by omega), nI_x (a := 101) (x := 96 + x2) (by decide) (by omega), nI_x (a := 101) (x := 32) (by decide) (by omega), nI_x (a := 100) (x := 32) (by decide) (by omega), nI_x (a := 32) (x := 32) (by decide) (by omega)]
    omega
  · rw [zLk_iff]
    rw [zCh_l (L := 3) (c := 0) (by decide) e0, zCh_l (L := 3) (c := 1) (by decide) e1, zCh_l (L := 3) (c := 2) (by decide) e2, zCh_s (L := 3) (c := 3) (by decide), zCh_s (L := 3) (c := 4) (by decide), zCh_s (L := 3) (c := 5) (by decide), zCh_s (L := 3) (c := 6) (by decide), zCh_s (L := 3) (c := 7) (by decide)]
    rw [show wd (8 * 4 + 0) = nI 99 from hW 32 (by decide), show wd (8 * 4 + 1) = nI 97 from hW 33 (by decide), show wd (8 * 4 + 2) = nI 107 from hW 34 (by decide), show wd (8 * 4 + 3) = nI 101 from hW 35 (by decide), show wd (8 * 4 + 4) = nI 32 from hW 36 (by decide), show wd (8 * 4 + 5) = nI 32 from hW 37 (by decide), show wd (8 * 4 + 6) = nI 32 from hW 38 (by decide), show wd (8 * 4 + 7) = nI 32 from hW 39 (by decide)]
    rw [nI_x (a := 99) (x := 96 + x0) (by decide) (by omega), nI_x (a := 97) (x := 96 + x1) (by decide) (by omega), nI_x (a := 107) (x := 96 + x2) (by decide) (by omega), nI_x (a := 101) (x := 32) (by decide) (by omega), nI_x (a := 32) (x := 32) (by decide) (by omega)]
    omega
  · rw [zLk_iff]
    rw [zCh_l (L := 3) (c := 0) (by decide) e0, zCh_l (L := 3) (c := 1) (by decide) e1, zCh_l (L := 3) (c := 2) (by decide) e2, zCh_s (L := 3) (c := 3) (by decide), zCh_s (L := 3) (c := 4) (by decide), zCh_s (L := 3) (c := 5) (by decide), zCh_s (L := 3) (c := 6) (by decide), zCh_s (L := 3) (c := 7) (by decide)]
    rw [show wd (8 * 5 + 0) = nI 117 from hW 40 (by decide), show wd (8 * 5 + 1) = nI 115 from hW 41 (by decide), show wd (8 * 5 + 2) = nI 101 from hW 42 (by decide), show wd (8 * 5 + 3) = nI 100 from hW 43 (by decide), show wd (8 * 5 + 4) = nI 32 from hW 44 (by decide), show wd (8 * 5 + 5) = nI 32 from hW 45 (by decide), show wd (8 * 5 + 6) = nI 32 from hW 46 (by decide), show wd (8 * 5 + 7) = nI 32 from hW 47 (by decide)]
    rw [nI_x (a := 117) (x := 96 + x0) (by decide) (by omega), nI_x (a := 115) (x := 96 + x1) (by decide) (by omega), nI_x (a := 101) (x := 96 + x2) (by decide) (by omega), nI_x (a := 100) (x := 32) (by decide) (by omega), nI_x (a := 32) (x := 32) (by decide) (by omega)]
    omega
  · rw [zLk_iff]
    rw [zCh_l (L := 3) (c := 0) (by decide) e0, zCh_l (L := 3) (c := 1) (by decide) e1, zCh_l (L := 3) (c := 2) (by decide) e2, zCh_s (L := 3) (c := 3) (by decide), zCh_s (L := 3) (c := 4) (by decide), zCh_s (L := 3) (c := 5) (by decide), zCh_s (L := 3) (c := 6) (by decide), zCh_s (L := 3) (c := 7) (by decide)]
    rw [show wd (8 * 6 + 0) = nI 109 from hW 48 (by decide), show wd (8 * 6 + 1) = nI 111 from hW 49 (by decide), show wd (8 * 6 + 2) = nI 114 from hW 50 (by decide), show wd (8 * 6 + 3) = nI 101 from hW 51 (by decide), show wd (8 * 6 + 4) = nI 32 from hW 52 (by decide), show wd (8 * 6 + 5) = nI 32 from hW 53 (by decide), show wd (8 * 6 + 6) = nI 32 from hW 54 (by decide), show wd (8 * 6 + 7) = nI 32 from hW 55 (by decide)]
    rw [nI_x (a := 109) (x := 96 + x0) (by decide) (by omega), nI_x (a := 111) (x := 96 + x1) (by decide) (by omega), nI_x (a := 114) (x := 96 + x2) (by decide) (by omega), nI_x (a := 101) (x := 32) (by decide) (by omega), nI_x (a := 32) (x := 32) (by decide) (by omega)]
    omega
  · rw [zLk_iff]
    rw [zCh_l (L := 3) (c := 0) (by decide) e0, zCh_l (L := 3) (c := 1) (by decide) e1, zCh_l (L := 3) (c := 2) (by decide) e2, zCh_s (L := 3) (c := 3) (by decide), zCh_s (L := 3) (c := 4) (by decide), zCh_s (L := 3) (c := 5) (by decide), zCh_s (L := 3) (c := 6) (by decide), zCh_s (L := 3) (c := 7) (by decide)]
    rw [show wd (8 * 7 + 0) = nI 115 from hW 56 (by decide), show wd (8 * 7 + 1) = nI 101 from hW 57 (by decide), show wd (8 * 7 + 2) = nI 110 from hW 58 (by decide), show wd (8 * 7 + 3) = nI 115 from hW 59 (by decide), show wd (8 * 7 + 4) = nI 101 from hW 60 (by decide), show wd (8 * 7 + 5) = nI 32 from hW 61 (by decide), show wd (8 * 7 + 6) = nI 32 from hW 62 (by decide), show wd (8 * 7 + 7) = nI 32 from hW 63 (by decide)]
    rw [nI_x (a := 115) (x := 96 + x0) (by decide) (by omega), nI_x (a := 101) (x := 96 + x1) (by decide) (by omega), nI_x (a := 110) (x := 96 + x2) (by decide) (by omega), nI_x (a := 115) (x := 32) (by decide) (by omega), nI_x (a := 101) (x := 32) (by decide) (by omega), nI_x (a := 32) (x := 32) (by decide) (by omega)]
    omega
  · rw [zLk_iff]
    rw [zCh_l (L := 3) (c := 0) (by decide) e0, zCh_l (L := 3) (c := 1) (by decide) e1, zCh_l (L := 3) (c := 2) (by decide) e2, zCh_s (L := 3) (c := 3) (by decide), zCh_s (L := 3) (c := 4) (by decide), zCh_s (L := 3) (c := 5) (by decide), zCh_s (L := 3) (c := 6) (by decide), zCh_s (L := 3) (c := 7) (by decide)]
    rw [show wd (8 * 8 + 0) = nI 101 from hW 64 (by decide), show wd (8 * 8 + 1) = nI 121 from hW 65 (by decide), show wd (8 * 8 + 2) = nI 101 from hW 66 (by decide), show wd (8 * 8 + 3) = nI 115 from hW 67 (by decide), show wd (8 * 8 + 4) = nI 32 from hW 68 (by decide), show wd (8 * 8 + 5) = nI 32 from hW 69 (by decide), show wd (8 * 8 + 6) = nI 32 from hW 70 (by decide), show wd (8 * 8 + 7) = nI 32 from hW 71 (by decide)]
    rw [nI_x (a := 101) (x := 96 + x0) (by decide) (by omega), nI_x (a := 121) (x := 96 + x1) (by decide) (by omega), nI_x (a := 101) (x := 96 + x2) (by decide) (by omega), nI_x (a := 115) (x := 32) (by decide) (by omega), nI_x (a := 32) (x := 32) (by decide) (by omega)]
    omega
  · rw [zLk_iff]
    rw [zCh_l (L := 3) (c := 0) (by decide) e0, zCh_l (L := 3) (c := 1) (by decide) e1, zCh_l (L := 3) (c := 2) (by decide) e2, zCh_s (L := 3) (c := 3) (by decide), zCh_s (L := 3) (c := 4) (by decide), zCh_s (L := 3) (c := 5) (by decide), zCh_s (L := 3) (c := 6) (by decide), zCh_s (L := 3) (c := 7) (by decide)]
    rw [show wd (8 * 9 + 0) = nI 111 from hW 72 (by decide), show wd (8 * 9 + 1) = nI 114 from hW 73 (by decide), show wd (8 * 9 + 2) = nI 32 from hW 74 (by decide), show wd (8 * 9 + 3) = nI 32 from hW 75 (by decide), show wd (8 * 9 + 4) = nI 32 from hW 76 (by decide), show wd (8 * 9 + 5) = nI 32 from hW 77 (by decide), show wd (8 * 9 + 6) = nI 32 from hW 78 (by decide), show wd (8 * 9 + 7) = nI 32 from hW 79 (by decide)]
    rw [nI_x (a := 111) (x := 96 + x0) (by decide) (by omega), nI_x (a := 114) (x := 96 + x1) (by decide) (by omega), nI_x (a := 32) (x := 96 + x2) (by decide) (by omega), nI_x (a := 32) (x := 32) (by decide) (by omega)]
    omega
  · rw [zLk_iff]
    rw [zCh_l (L := 3) (c := 0) (by decide) e0, zCh_l (L := 3) (c := 1) (by decide) e1, zCh_l (L := 3) (c := 2) (by decide) e2, zCh_s (L := 3) (c := 3) (by decide), zCh_s (L := 3) (c := 4) (by decide), zCh_s (L := 3) (c := 5) (by decide), zCh_s (L := 3) (c := 6) (by decide), zCh_s (L := 3) (c := 7) (by decide)]
    rw [show wd (8 * 10 + 0) = nI 97 from hW 80 (by decide), show wd (8 * 10 + 1) = nI 110 from hW 81 (by decide), show wd (8 * 10 + 2) = nI 100 from hW 82 (by decide), show wd (8 * 10 + 3) = nI 32 from hW 83 (by decide), show wd (8 * 10 + 4) = nI 32 from hW 84 (by decide), show wd (8 * 10 + 5) = nI 32 from hW 85 (by decide), show wd (8 * 10 + 6) = nI 32 from hW 86 (by decide), show wd (8 * 10 + 7) = nI 32 from hW 87 (by decide)]
    rw [nI_x (a := 97) (x := 96 + x0) (by decide) (by omega), nI_x (a := 110) (x := 96 + x1) (by decide) (by omega), nI_x (a := 100) (x := 96 + x2) (by decide) (by omega), nI_x (a := 32) (x := 32) (by decide) (by omega)]
    omega
  · rw [zLk_iff]
    rw [zCh_l (L := 3) (c := 0) (by decide) e0, zCh_l (L := 3) (c := 1) (by decide) e1, zCh_l (L := 3) (c := 2) (by decide) e2, zCh_s (L := 3) (c := 3) (by decide), zCh_s (L := 3) (c := 4) (by decide), zCh_s (L := 3) (c := 5) (by decide), zCh_s (L := 3) (c := 6) (by decide), zCh_s (L := 3) (c := 7) (by decide)]
    rw [show wd (8 * 11 + 0) = nI 110 from hW 88 (by decide), show wd (8 * 11 + 1) = nI 111 from hW 89 (by decide), show wd (8 * 11 + 2) = nI 116 from hW 90 (by decide), show wd (8 * 11 + 3) = nI 32 from hW 91 (by decide), show wd (8 * 11 + 4) = nI 32 from hW 92 (by decide), show wd (8 * 11 + 5) = nI 32 from hW 93 (by decide), show wd (8 * 11 + 6) = nI 32 from hW 94 (by decide), show wd (8 * 11 + 7) = nI 32 from hW 95 (by decide)]
    rw [nI_x (a := 110) (x := 96 + x0) (by decide) (by omega), nI_x (a := 111) (x := 96 + x1) (by decide) (by omega), nI_x (a := 116) (x := 96 + x2) (by decide) (by omega), nI_x (a := 32) (x := 32) (by decide) (by omega)]
    omega
theorem lex_4 (wd g : Nat → Int32) (n q : Nat) (hW : ∀ j, j < 96 → wd j = zWd j) (hl : zLet g q 4) (hn : q + 4 ≤ n) : ∃ V, V < 2 ^ 31 ∧ wNum g n q 4 = lN V ∧ (zLk wd g q (q + 4) 0 8 = true ↔ V = 89436307) ∧ (zLk wd g q (q + 4) 1 8 = true ↔ V = 6328499) ∧ (zLk wd g q (q + 4) 2 8 = true ↔ V = 2275475) ∧ (zLk wd g q (q + 4) 3 8 = true ↔ V = 20452516) ∧ (zLk wd g q (q + 4) 4 8 = true ↔ V = 99685) ∧ (zLk wd g q (q + 4) 5 8 = true ↔ V = 707748) ∧ (zLk wd g q (q + 4) 6 8 = true ↔ V = 441925) ∧ (zLk wd g q (q + 4) 7 8 = true ↔ V = 20101733) ∧ (zLk wd g q (q + 4) 8 8 = true ↔ V = 189619) ∧ (zLk wd g q (q + 4) 9 8 = true ↔ V = 498) ∧ (zLk wd g q (q + 4) 10 8 = true ↔ V = 1476) ∧ (zLk wd g q (q + 4) 11 8 = true ↔ V = 14836) := by
  obtain ⟨x0, e0, a0, b0⟩ := lt_x (hl 0 (by decide))
  obtain ⟨x1, e1, a1, b1⟩ := lt_x (hl 1 (by decide))
  obtain ⟨x2, e2, a2, b2⟩ := lt_x (hl 2 (by decide))
  obtain ⟨x3, e3, a3, b3⟩ := lt_x (hl 3 (by decide))
  have w0 : wNum g n q 0 = lN 0 := rfl
  have w1 := wN_step w0 (by decide) (by omega) e0 a0 b0
  have w2 := wN_step w1 (by decide) (by omega) e1 a1 b1
  have w3 := wN_step w2 (by decide) (by omega) e2 a2 b2
  have w4 := wN_step w3 (by decide) (by omega) e3 a3 b3
  refine ⟨(((0 * 32 + x0) * 32 + x1) * 32 + x2) * 32 + x3, by omega, w4, ?_, ?_, ?_, ?_, ?_, ?_, ?_, ?_, ?_, ?_, ?_, ?_⟩
  · rw [zLk_iff]
    rw [zCh_l (L := 4) (c := 0) (by decide) e0, zCh_l (L := 4) (c := 1) (by decide) e1, zCh_l (L := 4) (c := 2) (by decide) e2, zCh_l (L := 4) (c := 3) (by decide) e3, zCh_s (L := 4) (c := 4) (by decide), zCh_s (L := 4) (c := 5) (by decide), zCh_s (L := 4) (c := 6) (by decide), zCh_s (L := 4) (c := 7) (by decide)]
    rw [show wd (8 * 0 + 0) = nI 98 from hW 0 (by decide), show wd (8 * 0 + 1) = nI 117 from hW 1 (by decide), show wd (8 * 0 + 2) = nI 105 from hW 2 (by decide), show wd (8 * 0 + 3) = nI 108 from hW 3 (by decide), show wd (8 * 0 + 4) = nI 100 from hW 4 (by decide), show wd (8 * 0 + 5) = nI 115 from hW 5 (by decide), show wd (8 * 0 + 6) = nI 32 from hW 6 (by decide), show wd (8 * 0 + 7) = nI 32 from hW 7 (by decide)]
    rw [nI_x (a := 98) (x := 96 + x0) (by decide) (by omega), nI_x (a := 117) (x := 96 + x1) (by decide) (by omega), nI_x (a := 105) (x := 96 + x2) (by decide) (by omega), nI_x (a := 108) (x := 96 + x3) (by decide) (by omega), nI_x (a := 100) (x := 32) (by decide) (by omega), nI_x (a := 115) (x := 32) (by decide) (by omega), nI_x (a := 32) (x := 32) (by decide) (by omega)]
    omega
  · rw [zLk_iff]
    rw [zCh_l (L := 4) (c := 0) (by decide) e0, zCh_l (L := 4) (c := 1) (by decide) e1, zCh_l (L := 4) (c := 2) (by decide) e2, zCh_l (L := 4) (c := 3) (by decide) e3, zCh_s (L := 4) (c := 4) (by decide), zCh_s (L := 4) (c := 5) (by decide), zCh_s (L := 4) (c := 6) (by decide), zCh_s (L := 4) (c := 7) (by decide)]
    rw [show wd (8 * 1 + 0) = nI 102 from hW 8 (by decide), show wd (8 * 1 + 1) = nI 97 from hW 9 (by decide), show wd (8 * 1 + 2) = nI 100 from hW 10 (by decide), show wd (8 * 1 + 3) = nI 101 from hW 11 (by decide), show wd (8 * 1 + 4) = nI 115 from hW 12 (by decide), show wd (8 * 1 + 5) = nI 32 from hW 13 (by decide), show wd (8 * 1 + 6) = nI 32 from hW 14 (by decide), show wd (8 * 1 + 7) = nI 32 from hW 15 (by decide)]
    rw [nI_x (a := 102) (x := 96 + x0) (by decide) (by omega), nI_x (a := 97) (x := 96 + x1) (by decide) (by omega), nI_x (a := 100) (x := 96 + x2) (by decide) (by omega), nI_x (a := 101) (x := 96 + x3) (by decide) (by omega), nI_x (a := 115) (x := 32) (by decide) (by omega), nI_x (a := 32) (x := 32) (by decide) (by omega)]
    omega
  · rw [zLk_iff]
    rw [zCh_l (L := 4) (c := 0) (by decide) e0, zCh_l (L := 4) (c := 1) (by decide) e1, zCh_l (L := 4) (c := 2) (by decide) e2, zCh_l (L := 4) (c := 3) (by decide) e3, zCh_s (L := 4) (c := 4) (by decide), zCh_s (L := 4) (c := 5) (by decide), zCh_s (L := 4) (c := 6) (by decide), zCh_s (L := 4) (c := 7) (by decide)]
    rw [show wd (8 * 2 + 0) = nI 98 from hW 16 (by decide), show wd (8 * 2 + 1) = nI 101 from hW 17 (by decide), show wd (8 * 2 + 2) = nI 110 from hW 18 (by decide), show wd (8 * 2 + 3) = nI 100 from hW 19 (by decide), show wd (8 * 2 + 4) = nI 115 from hW 20 (by decide), show wd (8 * 2 + 5) = nI 32 from hW 21 (by decide), show wd (8 * 2 + 6) = nI 32 from hW 22 (by decide), show wd (8 * 2 + 7) = nI 32 from hW 23 (by decide)]
    rw [nI_x (a := 98) (x := 96 + x0) (by decide) (by omega), nI_x (a := 101) (x := 96 + x1) (by decide) (by omega), nI_x (a := 110) (x := 96 + x2) (by decide) (by omega), nI_x (a := 100) (x := 96 + x3) (by decide) (by omega), nI_x (a := 115) (x := 32) (by decide) (by omega), nI_x (a := 32) (x := 32) (by decide) (by omega)]
    omega
  · rw [zLk_iff]
    rw [zCh_l (L := 4) (c := 0) (by decide) e0, zCh_l (L := 4) (c := 1) (by decide) e1, zCh_l (L := 4) (c := 2) (by decide) e2, zCh_l (L := 4) (c := 3) (by decide) e3, zCh_s (L := 4) (c := 4) (by decide), zCh_s (L := 4) (c := 5) (by decide), zCh_s (L := 4) (c := 6) (by decide), zCh_s (L := 4) (c := 7) (by decide)]
    rw [show wd (8 * 3 + 0) = nI 115 from hW 24 (by decide), show wd (8 * 3 + 1) = nI 112 from hW 25 (by decide), show wd (8 * 3 + 2) = nI 101 from hW 26 (by decide), show wd (8 * 3 + 3) = nI 101 from hW 27 (by decide), show wd (8 * 3 + 4) = nI 100 from hW 28 (by decide), show wd (8 * 3 + 5) = nI 32 from hW 29 (by decide), show wd (8 * 3 + 6) = nI 32 from hW 30 (by decide), show wd (8 * 3 + 7) = nI 32 from hW 31 (by decide)]
    rw [nI_x (a := 115) (x := 96 + x0) (by decide) (by omega), nI_x (a := 112) (x := 96 + x1) (by decide) (by omega), nI_x (a := 101) (x := 96 + x2) (by decide) (by omega), nI_x (a := 101) (x := 96 + x3) (by decide) (by omega), nI_x (a := 100) (x := 32) (by decide) (by omega), nI_x (a := 32) (x := 32) (by decide) (by omega)]
    omega
  · rw [zLk_iff]
    rw [zCh_l (L := 4) (c := 0) (by decide) e0, zCh_l (L := 4) (c := 1) (by decide) e1, zCh_l (L := 4) (c := 2) (by decide) e2, zCh_l (L := 4) (c := 3) (by decide) e3, zCh_s (L := 4) (c := 4) (by decide), zCh_s (L := 4) (c := 5) (by decide), zCh_s (L := 4) (c := 6) (by decide), zCh_s (L := 4) (c := 7) (by decide)]
    rw [show wd (8 * 4 + 0) = nI 99 from hW 32 (by decide), show wd (8 * 4 + 1) = nI 97 from hW 33 (by decide), show wd (8 * 4 + 2) = nI 107 from hW 34 (by decide), show wd (8 * 4 + 3) = nI 101 from hW 35 (by decide), show wd (8 * 4 + 4) = nI 32 from hW 36 (by decide), show wd (8 * 4 + 5) = nI 32 from hW 37 (by decide), show wd (8 * 4 + 6) = nI 32 from hW 38 (by decide), show wd (8 * 4 + 7) = nI 32 from hW 39 (by decide)]
    rw [nI_x (a := 99) (x := 96 + x0) (by decide) (by omega), nI_x (a := 97) (x := 96 + x1) (by decide) (by omega), nI_x (a := 107) (x := 96 + x2) (by decide) (by omega), nI_x (a := 101) (x := 96 + x3) (by decide) (by omega), nI_x (a := 32) (x := 32) (by decide) (by omega)]
    omega
  · rw [zLk_iff]
    rw [zCh_l (L := 4) (c := 0) (by decide) e0, zCh_l (L := 4) (c := 1) (by decide) e1, zCh_l (L := 4) (c := 2) (by decide) e2, zCh_l (L := 4) (c := 3) (by decide) e3, zCh_s (L := 4) (c := 4) (by decide), zCh_s (L := 4) (c := 5) (by decide), zCh_s (L := 4) (c := 6) (by decide), zCh_s (L := 4) (c := 7) (by decide)]
    rw [show wd (8 * 5 + 0) = nI 117 from hW 40 (by decide), show wd (8 * 5 + 1) = nI 115 from hW 41 (by decide), show wd (8 * 5 + 2) = nI 101 from hW 42 (by decide), show wd (8 * 5 + 3) = nI 100 from hW 43 (by decide), show wd (8 * 5 + 4) = nI 32 from hW 44 (by decide), show wd (8 * 5 + 5) = nI 32 from hW 45 (by decide), show wd (8 * 5 + 6) = nI 32 from hW 46 (by decide), show wd (8 * 5 + 7) = nI 32 from hW 47 (by decide)]
    rw [nI_x (a := 117) (x := 96 + x0) (by decide) (by omega), nI_x (a := 115) (x := 96 + x1) (by decide) (by omega), nI_x (a := 101) (x := 96 + x2) (by decide) (by omega), nI_x (a := 100) (x := 96 + x3) (by decide) (by omega), nI_x (a := 32) (x := 32) (by decide) (by omega)]
    omega
  · rw [zLk_iff]
    rw [zCh_l (L := 4) (c := 0) (by decide) e0, zCh_l (L := 4) (c := 1) (by decide) e1, zCh_l (L := 4) (c := 2) (by decide) e2, zCh_l (L := 4) (c := 3) (by decide) e3, zCh_s (L := 4) (c := 4) (by decide), zCh_s (L := 4) (c := 5) (by decide), zCh_s (L := 4) (c := 6) (by decide), zCh_s (L := 4) (c := 7) (by decide)]
    rw [show wd (8 * 6 + 0) = nI 109 from hW 48 (by decide), show wd (8 * 6 + 1) = nI 111 from hW 49 (by decide), show wd (8 * 6 + 2) = nI 114 from hW 50 (by decide), show wd (8 * 6 + 3) = nI 101 from hW 51 (by decide), show wd (8 * 6 + 4) = nI 32 from hW 52 (by decide), show wd (8 * 6 + 5) = nI 32 from hW 53 (by decide), show wd (8 * 6 + 6) = nI 32 from hW 54 (by decide), show wd (8 * 6 + 7) = nI 32 from hW 55 (by decide)]
    rw [nI_x (a := 109) (x := 96 + x0) (by decide) (by omega), nI_x (a := 111) (x := 96 + x1) (by decide) (by omega), nI_x (a := 114) (x := 96 + x2) (by decide) (by omega), nI_x (a := 101) (x := 96 + x3) (by decide) (by omega), nI_x (a := 32) (x := 32) (by decide) (by omega)]
    omega
  · rw [zLk_iff]
    rw [zCh_l (L := 4) (c := 0) (by decide) e0, zCh_l (L := 4) (c := 1) (by decide) e1, zCh_l (L := 4) (c := 2) (by decide) e2, zCh_l (L := 4) (c := 3) (by decide) e3, zCh_s (L := 4) (c := 4) (by decide), zCh_s (L := 4) (c := 5) (by decide), zCh_s (L := 4) (c := 6) (by decide), zCh_s (L := 4) (c := 7) (by decide)]
    rw [show wd (8 * 7 + 0) = nI 115 from hW 56 (by decide), show wd (8 * 7 + 1) = nI 101 from hW 57 (by decide), show wd (8 * 7 + 2) = nI 110 from hW 58 (by decide), show wd (8 * 7 + 3) = nI 115 from hW 59 (by decide), show wd (8 * 7 + 4) = nI 101 from hW 60 (by decide), show wd (8 * 7 + 5) = nI 32 from hW 61 (by decide), show wd (8 * 7 + 6) = nI 32 from hW 62 (by decide), show wd (8 * 7 + 7) = nI 32 from hW 63 (by decide)]
    rw [nI_x (a := 115) (x := 96 + x0) (by decide) (by omega), nI_x (a := 101) (x := 96 + x1) (by decide) (by omega), nI_x (a := 110) (x := 96 + x2) (by decide) (by omega), nI_x (a := 115) (x := 96 + x3) (by decide) (by omega), nI_x (a := 101) (x := 32) (by decide) (by omega), nI_x (a := 32) (x := 32) (by decide) (by omega)]
    omega
  · rw [zLk_iff]
    rw [zCh_l (L := 4) (c := 0) (by decide) e0, zCh_l (L := 4) (c := 1) (by decide) e1, zCh_l (L := 4) (c := 2) (by decide) e2, zCh_l (L := 4) (c := 3) (by decide) e3, zCh_s (L := 4) (c := 4) (by decide), zCh_s (L := 4) (c := 5) (by decide), zCh_s (L := 4) (c := 6) (by decide), zCh_s (L := 4) (c := 7) (by decide)]
    rw [show wd (8 * 8 + 0) = nI 101 from hW 64 (by decide), show wd (8 * 8 + 1) = nI 121 from hW 65 (by decide), show wd (8 * 8 + 2) = nI 101 from hW 66 (by decide), show wd (8 * 8 + 3) = nI 115 from hW 67 (by decide), show wd (8 * 8 + 4) = nI 32 from hW 68 (by decide), show wd (8 * 8 + 5) = nI 32 from hW 69 (by decide), show wd (8 * 8 + 6) = nI 32 from hW 70 (by decide), show wd (8 * 8 + 7) = nI 32 from hW 71 (by decide)]
    rw [nI_x (a := 101) (x := 96 + x0) (by decide) (by omega), nI_x (a := 121) (x := 96 + x1) (by decide) (by omega), nI_x (a := 101) (x := 96 + x2) (by decide) (by omega), nI_x (a := 115) (x := 96 + x3) (by decide) (by omega), nI_x (a := 32) (x := 32) (by decide) (by omega)]
    omega
  · rw [zLk_iff]
    rw [zCh_l (L := 4) (c := 0) (by decide) e0, zCh_l (L := 4) (c := 1) (by decide) e1, zCh_l (L := 4) (c := 2) (by decide) e2, zCh_l (L := 4) (c := 3) (by decide) e3, zCh_s (L := 4) (c := 4) (by decide), zCh_s (L := 4) (c := 5) (by decide), zCh_s (L := 4) (c := 6) (by decide), zCh_s (L := 4) (c := 7) (by decide)]
    rw [show wd (8 * 9 + 0) = nI 111 from hW 72 (by decide), show wd (8 * 9 + 1) = nI 114 from hW 73 (by decide), show wd (8 * 9 + 2) = nI 32 from hW 74 (by decide), show wd (8 * 9 + 3) = nI 32 from hW 75 (by decide), show wd (8 * 9 + 4) = nI 32 from hW 76 (by decide), show wd (8 * 9 + 5) = nI 32 from hW 77 (by decide), show wd (8 * 9 + 6) = nI 32 from hW 78 (by decide), show wd (8 * 9 + 7) = nI 32 from hW 79 (by decide)]
    rw [nI_x (a := 111) (x := 96 + x0) (by decide) (by omega), nI_x (a := 114) (x := 96 + x1) (by decide) (by omega), nI_x (a := 32) (x := 96 + x2) (by decide) (by omega), nI_x (a := 32) (x := 96 + x3) (by decide) (by omega), nI_x (a := 32) (x := 32) (by decide) (by omega)]
    omega
  · rw [zLk_iff]
    rw [zCh_l (L := 4) (c := 0) (by decide) e0, zCh_l (L := 4) (c := 1) (by decide) e1, zCh_l (L := 4) (c := 2) (by decide) e2, zCh_l (L := 4) (c := 3) (by decide) e3, zCh_s (L := 4) (c := 4) (by decide), zCh_s (L := 4) (c := 5) (by decide), zCh_s (L := 4) (c := 6) (by decide), zCh_s (L := 4) (c := 7) (by decide)]
    rw [show wd (8 * 10 + 0) = nI 97 from hW 80 (by decide), show wd (8 * 10 + 1) = nI 110 from hW 81 (by decide), show wd (8 * 10 + 2) = nI 100 from hW 82 (by decide), show wd (8 * 10 + 3) = nI 32 from hW 83 (by decide), show wd (8 * 10 + 4) = nI 32 from hW 84 (by decide), show wd (8 * 10 + 5) = nI 32 from hW 85 (by decide), show wd (8 * 10 + 6) = nI 32 from hW 86 (by decide), show wd (8 * 10 + 7) = nI 32 from hW 87 (by decide)]
    rw [nI_x (a := 97) (x := 96 + x0) (by decide) (by omega), nI_x (a := 110) (x := 96 + x1) (by decide) (by omega), nI_x (a := 100) (x := 96 + x2) (by decide) (by omega), nI_x (a := 32) (x := 96 + x3) (by decide) (by omega), nI_x (a := 32) (x := 32) (by decide) (by omega)]
    omega
  · rw [zLk_iff]
    rw [zCh_l (L := 4) (c := 0) (by decide) e0, zCh_l (L := 4) (c := 1) (by decide) e1, zCh_l (L := 4) (c := 2) (by decide) e2, zCh_l (L := 4) (c := 3) (by decide) e3, zCh_s (L := 4) (c := 4) (by decide), zCh_s (L := 4) (c := 5) (by decide), zCh_s (L := 4) (c := 6) (by decide), zCh_s (L := 4) (c := 7) (by decide)]
    rw [show wd (8 * 11 + 0) = nI 110 from hW 88 (by decide), show wd (8 * 11 + 1) = nI 111 from hW 89 (by decide), show wd (8 * 11 + 2) = nI 116 from hW 90 (by decide), show wd (8 * 11 + 3) = nI 32 from hW 91 (by decide), show wd (8 * 11 + 4) = nI 32 from hW 92 (by decide), show wd (8 * 11 + 5) = nI 32 from hW 93 (by decide), show wd (8 * 11 + 6) = nI 32 from hW 94 (by decide), show wd (8 * 11 + 7) = nI 32 from hW 95 (by decide)]
    rw [nI_x (a := 110) (x := 96 + x0) (by decide) (by omega), nI_x (a := 111) (x := 96 + x1) (by decide) (by omega), nI_x (a := 116) (x := 96 + x2) (by decide) (by omega), nI_x (a := 32) (x := 96 + x3) (by decide) (by omega), nI_x (a := 32) (x := 32) (by decide) (by omega)]
    omega
theorem lex_5 (wd g : Nat → Int32) (n q : Nat) (hW : ∀ j, j < 96 → wd j = zWd j) (hl : zLet g q 5) (hn : q + 5 ≤ n) : ∃ V, V < 2 ^ 31 ∧ wNum g n q 5 = lN V ∧ (zLk wd g q (q + 5) 0 8 = true ↔ V = 89436307) ∧ (zLk wd g q (q + 5) 1 8 = true ↔ V = 6328499) ∧ (zLk wd g q (q + 5) 2 8 = true ↔ V = 2275475) ∧ (zLk wd g q (q + 5) 3 8 = true ↔ V = 20452516) ∧ (zLk wd g q (q + 5) 4 8 = true ↔ V = 99685) ∧ (zLk wd g q (q + 5) 5 8 = true ↔ V = 707748) ∧ (zLk wd g q (q + 5) 6 8 = true ↔ V = 441925) ∧ (zLk wd g q (q + 5) 7 8 = true ↔ V = 20101733) ∧ (zLk wd g q (q + 5) 8 8 = true ↔ V = 189619) ∧ (zLk wd g q (q + 5) 9 8 = true ↔ V = 498) ∧ (zLk wd g q (q + 5) 10 8 = true ↔ V = 1476) ∧ (zLk wd g q (q + 5) 11 8 = true ↔ V = 14836) := by
  obtain ⟨x0, e0, a0, b0⟩ := lt_x (hl 0 (by decide))
  obtain ⟨x1, e1, a1, b1⟩ := lt_x (hl 1 (by decide))
  obtain ⟨x2, e2, a2, b2⟩ := lt_x (hl 2 (by decide))
  obtain ⟨x3, e3, a3, b3⟩ := lt_x (hl 3 (by decide))
  obtain ⟨x4, e4, a4, b4⟩ := lt_x (hl 4 (by decide))
  have w0 : wNum g n q 0 = lN 0 := rfl
  have w1 := wN_step w0 (by decide) (by omega) e0 a0 b0
  have w2 := wN_step w1 (by decide) (by omega) e1 a1 b1
  have w3 := wN_step w2 (by decide) (by omega) e2 a2 b2
  have w4 := wN_step w3 (by decide) (by omega) e3 a3 b3
  have w5 := wN_step w4 (by decide) (by omega) e4 a4 b4
  refine ⟨((((0 * 32 + x0) * 32 + x1) * 32 + x2) * 32 + x3) * 32 + x4, by omega, w5, ?_, ?_, ?_, ?_, ?_, ?_, ?_, ?_, ?_, ?_, ?_, ?_⟩
  · rw [zLk_iff]
    rw [zCh_l (L := 5) (c := 0) (by decide) e0, zCh_l (L := 5) (c := 1) (by decide) e1, zCh_l (L := 5) (c := 2) (by decide) e2, zCh_l (L := 5) (c := 3) (by decide) e3, zCh_l (L := 5) (c := 4) (by decide) e4, zCh_s (L := 5) (c := 5) (by decide), zCh_s (L := 5) (c := 6) (by decide), zCh_s (L := 5) (c := 7) (by decide)]
    rw [show wd (8 * 0 + 0) = nI 98 from hW 0 (by decide), show wd (8 * 0 + 1) = nI 117 from hW 1 (by decide), show wd (8 * 0 + 2) = nI 105 from hW 2 (by decide), show wd (8 * 0 + 3) = nI 108 from hW 3 (by decide), show wd (8 * 0 + 4) = nI 100 from hW 4 (by decide), show wd (8 * 0 + 5) = nI 115 from hW 5 (by decide), show wd (8 * 0 + 6) = nI 32 from hW 6 (by decide), show wd (8 * 0 + 7) = nI 32 from hW 7 (by decide)]
    rw [nI_x (a := 98) (x := 96 + x0) (by decide) (by omega), nI_x (a := 117) (x := 96 + x1) (by decide) (by omega), nI_x (a := 105) (x := 96 + x2) (by decide) (by omega), nI_x (a := 108) (x := 96 + x3) (by decide) (by omega), nI_x (a := 100) (x := 96 + x4) (by decide) (by omega), nI_x (a := 115) (x := 32) (by decide) (by omega), nI_x (a := 32) (x := 32) (by decide) (by omega)]
    omega
  · rw [zLk_iff]
    rw [zCh_l (L := 5) (c := 0) (by decide) e0, zCh_l (L := 5) (c := 1) (by decide) e1, zCh_l (L := 5) (c := 2) (by decide) e2, zCh_l (L := 5) (c := 3) (by decide) e3, zCh_l (L := 5) (c := 4) (by decide) e4, zCh_s (L := 5) (c := 5) (by decide), zCh_s (L := 5) (c := 6) (by decide), zCh_s (L := 5) (c := 7) (by decide)]
    rw [show wd (8 * 1 + 0) = nI 102 from hW 8 (by decide), show wd (8 * 1 + 1) = nI 97 from hW 9 (by decide), show wd (8 * 1 + 2) = nI 100 from hW 10 (by decide), show wd (8 * 1 + 3) = nI 101 from hW 11 (by decide), show wd (8 * 1 + 4) = nI 115 from hW 12 (by decide), show wd (8 * 1 + 5) = nI 32 from hW 13 (by decide), show wd (8 * 1 + 6) = nI 32 from hW 14 (by decide), show wd (8 * 1 + 7) = nI 32 from hW 15 (by decide)]
    rw [nI_x (a := 102) (x := 96 + x0) (by decide) (by omega), nI_x (a := 97) (x := 96 + x1) (by decide) (by omega), nI_x (a := 100) (x := 96 + x2) (by decide) (by omega), nI_x (a := 101) (x := 96 + x3) (by decide) (by omega), nI_x (a := 115) (x := 96 + x4) (by decide) (by omega), nI_x (a := 32) (x := 32) (by decide) (by omega)]
    omega
  · rw [zLk_iff]
    rw [zCh_l (L := 5) (c := 0) (by decide) e0, zCh_l (L := 5) (c := 1) (by decide) e1, zCh_l (L := 5) (c := 2) (by decide) e2, zCh_l (L := 5) (c := 3) (by decide) e3, zCh_l (L := 5) (c := 4) (by decide) e4, zCh_s (L := 5) (c := 5) (by decide), zCh_s (L := 5) (c := 6) (by decide), zCh_s (L := 5) (c := 7) (by decide)]
    rw [show wd (8 * 2 + 0) = nI 98 from hW 16 (by decide), show wd (8 * 2 + 1) = nI 101 from hW 17 (by decide), show wd (8 * 2 + 2) = nI 110 from hW 18 (by decide), show wd (8 * 2 + 3) = nI 100 from hW 19 (by decide), show wd (8 * 2 + 4) = nI 115 from hW 20 (by decide), show wd (8 * 2 + 5) = nI 32 from hW 21 (by decide), show wd (8 * 2 + 6) = nI 32 from hW 22 (by decide), show wd (8 * 2 + 7) = nI 32 from hW 23 (by decide)]
    rw [nI_x (a := 98) (x := 96 + x0) (by decide) (by omega), nI_x (a := 101) (x := 96 + x1) (by decide) (by omega), nI_x (a := 110) (x := 96 + x2) (by decide) (by omega), nI_x (a := 100) (x := 96 + x3) (by decide) (by omega), nI_x (a := 115) (x := 96 + x4) (by decide) (by omega), nI_x (a := 32) (x := 32) (by decide) (by omega)]
    omega
  · rw [zLk_iff]
    rw [zCh_l (L := 5) (c := 0) (by decide) e0, zCh_l (L := 5) (c := 1) (by decide) e1, zCh_l (L := 5) (c := 2) (by decide) e2, zCh_l (L := 5) (c := 3) (by decide) e3, zCh_l (L := 5) (c := 4) (by decide) e4, zCh_s (L := 5) (c := 5) (by decide), zCh_s (L := 5) (c := 6) (by decide), zCh_s (L := 5) (c := 7) (by decide)]
    rw [show wd (8 * 3 + 0) = nI 115 from hW 24 (by decide), show wd (8 * 3 + 1) = nI 112 from hW 25 (by decide), show wd (8 * 3 + 2) = nI 101 from hW 26 (by decide), show wd (8 * 3 + 3) = nI 101 from hW 27 (by decide), show wd (8 * 3 + 4) = nI 100 from hW 28 (by decide), show wd (8 * 3 + 5) = nI 32 from hW 29 (by decide), show wd (8 * 3 + 6) = nI 32 from hW 30 (by decide), show wd (8 * 3 + 7) = nI 32 from hW 31 (by decide)]
    rw [nI_x (a := 115) (x := 96 + x0) (by decide) (by omega), nI_x (a := 112) (x := 96 + x1) (by decide) (by omega), nI_x (a := 101) (x := 96 + x2) (by decide) (by omega), nI_x (a := 101) (x := 96 + x3) (by decide) (by omega), nI_x (a := 100) (x := 96 + x4) (by decide) (by omega), nI_x (a := 32) (x := 32) (by decide) (by omega)]
    omega
  · rw [zLk_iff]
    rw [zCh_l (L := 5) (c := 0) (by decide) e0, zCh_l (L := 5) (c := 1) (by decide) e1, zCh_l (L := 5) (c := 2) (by decide) e2, zCh_l (L := 5) (c := 3) (by decide) e3, zCh_l (L := 5) (c := 4) (by decide) e4, zCh_s (L := 5) (c := 5) (by decide), zCh_s (L := 5) (c := 6) (by decide), zCh_s (L := 5) (c := 7) (by decide)]
    rw [show wd (8 * 4 + 0) = nI 99 from hW 32 (by decide), show wd (8 * 4 + 1) = nI 97 from hW 33 (by decide), show wd (8 * 4 + 2) = nI 107 from hW 34 (by decide), show wd (8 * 4 + 3) = nI 101 from hW 35 (by decide), show wd (8 * 4 + 4) = nI 32 from hW 36 (by decide), show wd (8 * 4 + 5) = nI 32 from hW 37 (by decide), show wd (8 * 4 + 6) = nI 32 from hW 38 (by decide), show wd (8 * 4 + 7) = nI 32 from hW 39 (by decide)]
    rw [nI_x (a := 99) (x := 96 + x0) (by decide) (by omega), nI_x (a := 97) (x := 96 + x1) (by decide) (by omega), nI_x (a := 107) (x := 96 + x2) (by decide) (by omega), nI_x (a := 101) (x := 96 + x3) (by decide) (by omega), nI_x (a := 32) (x := 96 + x4) (by decide) (by omega), nI_x (a := 32) (x := 32) (by decide) (by omega)]
    omega
  · rw [zLk_iff]
    rw [zCh_l (L := 5) (c := 0) (by decide) e0, zCh_l (L := 5) (c := 1) (by decide) e1, zCh_l (L := 5) (c := 2) (by decide) e2, zCh_l (L := 5) (c := 3) (by decide) e3, zCh_l (L := 5) (c := 4) (by decide) e4, zCh_s (L := 5) (c := 5) (by decide), zCh_s (L := 5) (c := 6) (by decide), zCh_s (L := 5) (c := 7) (by decide)]
    rw [show wd (8 * 5 + 0) = nI 117 from hW 40 (by decide), show wd (8 * 5 + 1) = nI 115 from hW 41 (by decide), show wd (8 * 5 + 2) = nI 101 from hW 42 (by decide), show wd (8 * 5 + 3) = nI 100 from hW 43 (by decide), show wd (8 * 5 + 4) = nI 32 from hW 44 (by decide), show wd (8 * 5 + 5) = nI 32 from hW 45 (by decide), show wd (8 * 5 + 6) = nI 32 from hW 46 (by decide), show wd (8 * 5 + 7) = nI 32 from hW 47 (by decide)]
    rw [nI_x (a := 117) (x := 96 + x0) (by decide) (by omega), nI_x (a := 115) (x := 96 + x1) (by decide) (by omega), nI_x (a := 101) (x := 96 + x2) (by decide) (by omega), nI_x (a := 100) (x := 96 + x3) (by decide) (by omega), nI_x (a := 32) (x := 96 + x4) (by decide) (by omega), nI_x (a := 32) (x := 32) (by decide) (by omega)]
    omega
  · rw [zLk_iff]
    rw [zCh_l (L := 5) (c := 0) (by decide) e0, zCh_l (L := 5) (c := 1) (by decide) e1, zCh_l (L := 5) (c := 2) (by decide) e2, zCh_l (L := 5) (c := 3) (by decide) e3, zCh_l (L := 5) (c := 4) (by decide) e4, zCh_s (L := 5) (c := 5) (by decide), zCh_s (L := 5) (c := 6) (by decide), zCh_s (L := 5) (c := 7) (by decide)]
    rw [show wd (8 * 6 + 0) = nI 109 from hW 48 (by decide), show wd (8 * 6 + 1) = nI 111 from hW 49 (by decide), show wd (8 * 6 + 2) = nI 114 from hW 50 (by decide), show wd (8 * 6 + 3) = nI 101 from hW 51 (by decide), show wd (8 * 6 + 4) = nI 32 from hW 52 (by decide), show wd (8 * 6 + 5) = nI 32 from hW 53 (by decide), show wd (8 * 6 + 6) = nI 32 from hW 54 (by decide), show wd (8 * 6 + 7) = nI 32 from hW 55 (by decide)]
    rw [nI_x (a := 109) (x := 96 + x0) (by decide) (by omega), nI_x (a := 111) (x := 96 + x1) (by decide) (by omega), nI_x (a := 114) (x := 96 + x2) (by decide) (by omega), nI_x (a := 101) (x := 96 + x3) (by decide) (by omega), nI_x (a := 32) (x := 96 + x4) (by decide) (by omega), nI_x (a := 32) (x := 32) (by decide) (by omega)]
    omega
  · rw [zLk_iff]
    rw [zCh_l (L := 5) (c := 0) (by decide) e0, zCh_l (L := 5) (c := 1) (by decide) e1, zCh_l (L := 5) (c := 2) (by decide) e2, zCh_l (L := 5) (c := 3) (by decide) e3, zCh_l (L := 5) (c := 4) (by decide) e4, zCh_s (L := 5) (c := 5) (by decide), zCh_s (L := 5) (c := 6) (by decide), zCh_s (L := 5) (c := 7) (by decide)]
    rw [show wd (8 * 7 + 0) = nI 115 from hW 56 (by decide), show wd (8 * 7 + 1) = nI 101 from hW 57 (by decide), show wd (8 * 7 + 2) = nI 110 from hW 58 (by decide), show wd (8 * 7 + 3) = nI 115 from hW 59 (by decide), show wd (8 * 7 + 4) = nI 101 from hW 60 (by decide), show wd (8 * 7 + 5) = nI 32 from hW 61 (by decide), show wd (8 * 7 + 6) = nI 32 from hW 62 (by decide), show wd (8 * 7 + 7) = nI 32 from hW 63 (by decide)]
    rw [nI_x (a := 115) (x := 96 + x0) (by decide) (by omega), nI_x (a := 101) (x := 96 + x1) (by decide) (by omega), nI_x (a := 110) (x := 96 + x2) (by decide) (by omega), nI_x (a := 115) (x := 96 + x3) (by decide) (by omega), nI_x (a := 101) (x := 96 + x4) (by decide) (by omega), nI_x (a := 32) (x := 32) (by decide) (by omega)]
    omega
  · rw [zLk_iff]
    rw [zCh_l (L := 5) (c := 0) (by decide) e0, zCh_l (L := 5) (c := 1) (by decide) e1, zCh_l (L := 5) (c := 2) (by decide) e2, zCh_l (L := 5) (c := 3) (by decide) e3, zCh_l (L := 5) (c := 4) (by decide) e4, zCh_s (L := 5) (c := 5) (by decide), zCh_s (L := 5) (c := 6) (by decide), zCh_s (L := 5) (c := 7) (by decide)]
    rw [show wd (8 * 8 + 0) = nI 101 from hW 64 (by decide), show wd (8 * 8 + 1) = nI 121 from hW 65 (by decide), show wd (8 * 8 + 2) = nI 101 from hW 66 (by decide), show wd (8 * 8 + 3) = nI 115 from hW 67 (by decide), show wd (8 * 8 + 4) = nI 32 from hW 68 (by decide), show wd (8 * 8 + 5) = nI 32 from hW 69 (by decide), show wd (8 * 8 + 6) = nI 32 from hW 70 (by decide), show wd (8 * 8 + 7) = nI 32 from hW 71 (by decide)]
    rw [nI_x (a := 101) (x := 96 + x0) (by decide) (by omega), nI_x (a := 121) (x := 96 + x1) (by decide) (by omega), nI_x (a := 101) (x := 96 + x2) (by decide) (by omega), nI_x (a := 115) (x := 96 + x3) (by decide) (by omega), nI_x (a := 32) (x := 96 + x4) (by decide) (by omega), nI_x (a := 32) (x := 32) (by decide) (by omega)]
    omega
  · rw [zLk_iff]
    rw [zCh_l (L := 5) (c := 0) (by decide) e0, zCh_l (L := 5) (c := 1) (by decide) e1, zCh_l (L := 5) (c := 2) (by decide) e2, zCh_l (L := 5) (c := 3) (by decide) e3, zCh_l (L := 5) (c := 4) (by decide) e4, zCh_s (L := 5) (c := 5) (by decide), zCh_s (L := 5) (c := 6) (by decide), zCh_s (L := 5) (c := 7) (by decide)]
    rw [show wd (8 * 9 + 0) = nI 111 from hW 72 (by decide), show wd (8 * 9 + 1) = nI 114 from hW 73 (by decide), show wd (8 * 9 + 2) = nI 32 from hW 74 (by decide), show wd (8 * 9 + 3) = nI 32 from hW 75 (by decide), show wd (8 * 9 + 4) = nI 32 from hW 76 (by decide), show wd (8 * 9 + 5) = nI 32 from hW 77 (by decide), show wd (8 * 9 + 6) = nI 32 from hW 78 (by decide), show wd (8 * 9 + 7) = nI 32 from hW 79 (by decide)]
    rw [nI_x (a := 111) (x := 96 + x0) (by decide) (by omega), nI_x (a := 114) (x := 96 + x1) (by decide) (by omega), nI_x (a := 32) (x := 96 + x2) (by decide) (by omega), nI_x (a := 32) (x := 96 + x3) (by decide) (by omega), nI_x (a := 32) (x := 96 + x4) (by decide) (by omega), nI_x (a := 32) (x := 32) (by decide) (by omega)]
    omega
  · rw [zLk_iff]
    rw [zCh_l (L := 5) (c := 0) (by decide) e0, zCh_l (L := 5) (c := 1) (by decide) e1, zCh_l (L := 5) (c := 2) (by decide) e2, zCh_l (L := 5) (c := 3) (by decide) e3, zCh_l (L := 5) (c := 4) (by decide) e4, zCh_s (L := 5) (c := 5) (by decide), zCh_s (L := 5) (c := 6) (by decide), zCh_s (L := 5) (c := 7) (by decide)]
    rw [show wd (8 * 10 + 0) = nI 97 from hW 80 (by decide), show wd (8 * 10 + 1) = nI 110 from hW 81 (by decide), show wd (8 * 10 + 2) = nI 100 from hW 82 (by decide), show wd (8 * 10 + 3) = nI 32 from hW 83 (by decide), show wd (8 * 10 + 4) = nI 32 from hW 84 (by decide), show wd (8 * 10 + 5) = nI 32 from hW 85 (by decide), show wd (8 * 10 + 6) = nI 32 from hW 86 (by decide), show wd (8 * 10 + 7) = nI 32 from hW 87 (by decide)]
    rw [nI_x (a := 97) (x := 96 + x0) (by decide) (by omega), nI_x (a := 110) (x := 96 + x1) (by decide) (by omega), nI_x (a := 100) (x := 96 + x2) (by decide) (by omega), nI_x (a := 32) (x := 96 + x3) (by decide) (by omega), nI_x (a := 32) (x := 96 + x4) (by decide) (by omega), nI_x (a := 32) (x := 32) (by decide) (by omega)]
    omega
  · rw [zLk_iff]
    rw [zCh_l (L := 5) (c := 0) (by decide) e0, zCh_l (L := 5) (c := 1) (by decide) e1, zCh_l (L := 5) (c := 2) (by decide) e2, zCh_l (L := 5) (c := 3) (by decide) e3, zCh_l (L := 5) (c := 4) (by decide) e4, zCh_s (L := 5) (c := 5) (by decide), zCh_s (L := 5) (c := 6) (by decide), zCh_s (L := 5) (c := 7) (by decide)]
    rw [show wd (8 * 11 + 0) = nI 110 from hW 88 (by decide), show wd (8 * 11 + 1) = nI 111 from hW 89 (by decide), show wd (8 * 11 + 2) = nI 116 from hW 90 (by decide), show wd (8 * 11 + 3) = nI 32 from hW 91 (by decide), show wd (8 * 11 + 4) = nI 32 from hW 92 (by decide), show wd (8 * 11 + 5) = nI 32 from hW 93 (by decide), show wd (8 * 11 + 6) = nI 32 from hW 94 (by decide), show wd (8 * 11 + 7) = nI 32 from hW 95 (by decide)]
    rw [nI_x (a := 110) (x := 96 + x0) (by decide) (by omega), nI_x (a := 111) (x := 96 + x1) (by decide) (by omega), nI_x (a := 116) (x := 96 + x2) (by decide) (by omega), nI_x (a := 32) (x := 96 + x3) (by decide) (by omega), nI_x (a := 32) (x := 96 + x4) (by decide) (by omega), nI_x (a := 32) (x := 32) (by decide) (by omega)]
    omega
theorem lex_6 (wd g : Nat → Int32) (n q : Nat) (hW : ∀ j, j < 96 → wd j = zWd j) (hl : zLet g q 6) (hn : q + 6 ≤ n) : ∃ V, V < 2 ^ 31 ∧ wNum g n q 6 = lN V ∧ (zLk wd g q (q + 6) 0 8 = true ↔ V = 89436307) ∧ (zLk wd g q (q + 6) 1 8 = true ↔ V = 6328499) ∧ (zLk wd g q (q + 6) 2 8 = true ↔ V = 2275475) ∧ (zLk wd g q (q + 6) 3 8 = true ↔ V = 20452516) ∧ (zLk wd g q (q + 6) 4 8 = true ↔ V = 99685) ∧ (zLk wd g q (q + 6) 5 8 = true ↔ V = 707748) ∧ (zLk wd g q (q + 6) 6 8 = true ↔ V = 441925) ∧ (zLk wd g q (q + 6) 7 8 = true ↔ V = 20101733) ∧ (zLk wd g q (q + 6) 8 8 = true ↔ V = 189619) ∧ (zLk wd g q (q + 6) 9 8 = true ↔ V = 498) ∧ (zLk wd g q (q + 6) 10 8 = true ↔ V = 1476) ∧ (zLk wd g q (q + 6) 11 8 = true ↔ V = 14836) := by
  obtain ⟨x0, e0, a0, b0⟩ := lt_x (hl 0 (by decide))
  obtain ⟨x1, e1, a1, b1⟩ := lt_x (hl 1 (by decide))
  obtain ⟨x2, e2, a2, b2⟩ := lt_x (hl 2 (by decide))
  obtain ⟨x3, e3, a3, b3⟩ := lt_x (hl 3 (by decide))
  obtain ⟨x4, e4, a4, b4⟩ := lt_x (hl 4 (by decide))
  obtain ⟨x5, e5, a5, b5⟩ := lt_x (hl 5 (by decide))
  have w0 : wNum g n q 0 = lN 0 := rfl
  have w1 := wN_step w0 (by decide) (by omega) e0 a0 b0
  have w2 := wN_step w1 (by decide) (by omega) e1 a1 b1
  have w3 := wN_step w2 (by decide) (by omega) e2 a2 b2
  have w4 := wN_step w3 (by decide) (by omega) e3 a3 b3
  have w5 := wN_step w4 (by decide) (by omega) e4 a4 b4
  have w6 := wN_step w5 (by decide) (by omega) e5 a5 b5
  refine ⟨(((((0 * 32 + x0) * 32 + x1) * 32 + x2) * 32 + x3) * 32 + x4) * 32 + x5, by omega, w6, ?_, ?_, ?_, ?_, ?_, ?_, ?_, ?_, ?_, ?_, ?_, ?_⟩
  · rw [zLk_iff]
    rw [zCh_l (L := 6) (c := 0) (by decide) e0, zCh_l (L := 6) (c := 1) (by decide) e1, zCh_l (L := 6) (c := 2) (by decide) e2, zCh_l (L := 6) (c := 3) (by decide) e3, zCh_l (L := 6) (c := 4) (by decide) e4, zCh_l (L := 6) (c := 5) (by decide) e5, zCh_s (L := 6) (c := 6) (by decide), zCh_s (L := 6) (c := 7) (by decide)]
    rw [show wd (8 * 0 + 0) = nI 98 from hW 0 (by decide), show wd (8 * 0 + 1) = nI 117 from hW 1 (by decide), show wd (8 * 0 + 2) = nI 105 from hW 2 (by decide), show wd (8 * 0 + 3) = nI 108 from hW 3 (by decide), show wd (8 * 0 + 4) = nI 100 from hW 4 (by decide), show wd (8 * 0 + 5) = nI 115 from hW 5 (by decide), show wd (8 * 0 + 6) = nI 32 from hW 6 (by decide), show wd (8 * 0 + 7) = nI 32 from hW 7 (by decide)]
    rw [nI_x (a := 98) (x := 96 + x0) (by decide) (by omega), nI_x (a := 117) (x := 96 + x1) (by decide) (by omega), nI_x (a := 105) (x := 96 + x2) (by decide) (by omega), nI_x (a := 108) (x := 96 + x3) (by decide) (by omega), nI_x (a := 100) (x := 96 + x4) (by decide) (by omega), nI_x (a := 115) (x := 96 + x5) (by decide) (by omega), nI_x (a := 32) (x := 32) (by decide) (by omega)]
    omega
  · rw [zLk_iff]
    rw [zCh_l (L := 6) (c := 0) (by decide) e0, zCh_l (L := 6) (c := 1) (by decide) e1, zCh_l (L := 6) (c := 2) (by decide) e2, zCh_l (L := 6) (c := 3) (by decide) e3, zCh_l (L := 6) (c := 4) (by decide) e4, zCh_l (L := 6) (c := 5) (by decide) e5, zCh_s (L := 6) (c := 6) (by decide), zCh_s (L := 6) (c := 7) (by decide)]
    rw [show wd (8 * 1 + 0) = nI 102 from hW 8 (by decide), show wd (8 * 1 + 1) = nI 97 from hW 9 (by decide), show wd (8 * 1 + 2) = nI 100 from hW 10 (by decide), show wd (8 * 1 + 3) = nI 101 from hW 11 (by decide), show wd (8 * 1 + 4) = nI 115 from hW 12 (by decide), show wd (8 * 1 + 5) = nI 32 from hW 13 (by decide), show wd (8 * 1 + 6) = nI 32 from hW 14 (by decide), show wd (8 * 1 + 7) = nI 32 from hW 15 (by decide)]
    rw [nI_x (a := 102) (x := 96 + x0) (by decide) (by omega), nI_x (a := 97) (x := 96 + x1) (by decide) (by omega), nI_x (a := 100) (x := 96 + x2) (by decide) (by omega), nI_x (a := 101) (x := 96 + x3) (by decide) (by omega), nI_x (a := 115) (x := 96 + x4) (by decide) (by omega), nI_x (a := 32) (x := 96 + x5) (by decide) (by omega), nI_x (a := 32) (x := 32) (by decide) (by omega)]
    omega
  · rw [zLk_iff]
    rw [zCh_l (L := 6) (c := 0) (by decide) e0, zCh_l (L := 6) (c := 1) (by decide) e1, zCh_l (L := 6) (c := 2) (by decide) e2, zCh_l (L := 6) (c := 3) (by decide) e3, zCh_l (L := 6) (c := 4) (by decide) e4, zCh_l (L := 6) (c := 5) (by decide) e5, zCh_s (L := 6) (c := 6) (by decide), zCh_s (L := 6) (c := 7) (by decide)]
    rw [show wd (8 * 2 + 0) = nI 98 from hW 16 (by decide), show wd (8 * 2 + 1) = nI 101 from hW 17 (by decide), show wd (8 * 2 + 2) = nI 110 from hW 18 (by decide), show wd (8 * 2 + 3) = nI 100 from hW 19 (by decide), show wd (8 * 2 + 4) = nI 115 from hW 20 (by decide), show wd (8 * 2 + 5) = nI 32 from hW 21 (by decide), show wd (8 * 2 + 6) = nI 32 from hW 22 (by decide), show wd (8 * 2 + 7) = nI 32 from hW 23 (by decide)]
    rw [nI_x (a := 98) (x := 96 + x0) (by decide) (by omega), nI_x (a := 101) (x := 96 + x1) (by decide) (by omega), nI_x (a := 110) (x := 96 + x2) (by decide) (by omega), nI_x (a := 100) (x := 96 + x3) (by decide) (by omega), nI_x (a := 115) (x := 96 + x4) (by decide) (by omega), nI_x (a := 32) (x := 96 + x5) (by decide) (by omega), nI_x (a := 32) (x := 32) (by decide) (by omega)]
    omega
  · rw [zLk_iff]
    rw [zCh_l (L := 6) (c := 0) (by decide) e0, zCh_l (L := 6) (c := 1) (by decide) e1, zCh_l (L := 6) (c := 2) (by decide) e2, zCh_l (L := 6) (c := 3) (by decide) e3, zCh_l (L := 6) (c := 4) (by decide) e4, zCh_l (L := 6) (c := 5) (by decide) e5, zCh_s (L := 6) (c := 6) (by decide), zCh_s (L := 6) (c := 7) (by decide)]
    rw [show wd (8 * 3 + 0) = nI 115 from hW 24 (by decide), show wd (8 * 3 + 1) = nI 112 from hW 25 (by decide), show wd (8 * 3 + 2) = nI 101 from hW 26 (by decide), show wd (8 * 3 + 3) = nI 101 from hW 27 (by decide), show wd (8 * 3 + 4) = nI 100 from hW 28 (by decide), show wd (8 * 3 + 5) = nI 32 from hW 29 (by decide), show wd (8 * 3 + 6) = nI 32 from hW 30 (by decide), show wd (8 * 3 + 7) = nI 32 from hW 31 (by decide)]
    rw [nI_x (a := 115) (x := 96 + x0) (by decide) (by omega), nI_x (a := 112) (x := 96 + x1) (by decide) (by omega), nI_x (a := 101) (x := 96 + x2) (by decide) (by omega), nI_x (a := 101) (x := 96 + x3) (by decide) (by omega), nI_x (a := 100) (x := 96 + x4) (by decide) (by omega), nI_x (a := 32) (x := 96 + x5) (by decide) (by omega), nI_x (a := 32) (x := 32) (by decide) (by omega)]
    omega
  · rw [zLk_iff]
    rw [zCh_l (L := 6) (c := 0) (by decide) e0, zCh_l (L := 6) (c := 1) (by decide) e1, zCh_l (L := 6) (c := 2) (by decide) e2, zCh_l (L := 6) (c := 3) (by decide) e3, zCh_l (L := 6) (c := 4) (by decide) e4, zCh_l (L := 6) (c := 5) (by decide) e5, zCh_s (L := 6) (c := 6) (by decide), zCh_s (L := 6) (c := 7) (by decide)]
    rw [show wd (8 * 4 + 0) = nI 99 from hW 32 (by decide), show wd (8 * 4 + 1) = nI 97 from hW 33 (by decide), show wd (8 * 4 + 2) = nI 107 from hW 34 (by decide), show wd (8 * 4 + 3) = nI 101 from hW 35 (by decide), show wd (8 * 4 + 4) = nI 32 from hW 36 (by decide), show wd (8 * 4 + 5) = nI 32 from hW 37 (by decide), show wd (8 * 4 + 6) = nI 32 from hW 38 (by decide), show wd (8 * 4 + 7) = nI 32 from hW 39 (by decide)]
    rw [nI_x (a := 99) (x := 96 + x0) (by decide) (by omega), nI_x (a := 97) (x := 96 + x1) (by decide) (by omega), nI_x (a := 107) (x := 96 + x2) (by decide) (by omega), nI_x (a := 101) (x := 96 + x3) (by decide) (by omega), nI_x (a := 32) (x := 96 + x4) (by decide) (by omega), nI_x (a := 32) (x := 96 + x5) (by decide) (by omega), nI_x (a := 32) (x := 32) (by decide) (by omega)]
    omega
  · rw [zLk_iff]
    rw [zCh_l (L := 6) (c := 0) (by decide) e0, zCh_l (L := 6) (c := 1) (by decide) e1, zCh_l (L := 6) (c := 2) (by decide) e2, zCh_l (L := 6) (c := 3) (by decide) e3, zCh_l (L := 6) (c := 4) (by decide) e4, zCh_l (L := 6) (c := 5) (by decide) e5, zCh_s (L := 6) (c := 6) (by decide), zCh_s (L := 6) (c := 7) (by decide)]
    rw [show wd (8 * 5 + 0) = nI 117 from hW 40 (by decide), show wd (8 * 5 + 1) = nI 115 from hW 41 (by decide), show wd (8 * 5 + 2) = nI 101 from hW 42 (by decide), show wd (8 * 5 + 3) = nI 100 from hW 43 (by decide), show wd (8 * 5 + 4) = nI 32 from hW 44 (by decide), show wd (8 * 5 + 5) = nI 32 from hW 45 (by decide), show wd (8 * 5 + 6) = nI 32 from hW 46 (by decide), show wd (8 * 5 + 7) = nI 32 from hW 47 (by decide)]
    rw [nI_x (a := 117) (x := 96 + x0) (by decide) (by omega), nI_x (a := 115) (x := 96 + x1) (by decide) (by omega), nI_x (a := 101) (x := 96 + x2) (by decide) (by omega), nI_x (a := 100) (x := 96 + x3) (by decide) (by omega), nI_x (a := 32) (x := 96 + x4) (by decide) (by omega), nI_x (a := 32) (x := 96 + x5) (by decide) (by omega), nI_x (a := 32) (x := 32) (by decide) (by omega)]
    omega
  · rw [zLk_iff]
    rw [zCh_l (L := 6) (c := 0) (by decide) e0, zCh_l (L := 6) (c := 1) (by decide) e1, zCh_l (L := 6) (c := 2) (by decide) e2, zCh_l (L := 6) (c := 3) (by decide) e3, zCh_l (L := 6) (c := 4) (by decide) e4, zCh_l (L := 6) (c := 5) (by decide) e5, zCh_s (L := 6) (c := 6) (by decide), zCh_s (L := 6) (c := 7) (by decide)]
    rw [show wd (8 * 6 + 0) = nI 109 from hW 48 (by decide), show wd (8 * 6 + 1) = nI 111 from hW 49 (by decide), show wd (8 * 6 + 2) = nI 114 from hW 50 (by decide), show wd (8 * 6 + 3) = nI 101 from hW 51 (by decide), show wd (8 * 6 + 4) = nI 32 from hW 52 (by decide), show wd (8 * 6 + 5) = nI 32 from hW 53 (by decide), show wd (8 * 6 + 6) = nI 32 from hW 54 (by decide), show wd (8 * 6 + 7) = nI 32 from hW 55 (by decide)]
    rw [nI_x (a := 109) (x := 96 + x0) (by decide) (by omega), nI_x (a := 111) (x := 96 + x1) (by decide) (by omega), nI_x (a := 114) (x := 96 + x2) (by decide) (by omega), nI_x (a := 101) (x := 96 + x3) (by decide) (by omega), nI_x (a := 32) (x := 96 + x4) (by decide) (by omega), nI_x (a := 32) (x := 96 + x5) (by decide) (by omega), nI_x (a := 32) (x := 32) (by decide) (by omega)]
    omega
  · rw [zLk_iff]
    rw [zCh_l (L := 6) (c := 0) (by decide) e0, zCh_l (L := 6) (c := 1) (by decide) e1, zCh_l (L := 6) (c := 2) (by decide) e2, zCh_l (L := 6) (c := 3) (by decide) e3, zCh_l (L := 6) (c := 4) (by decide) e4, zCh_l (L := 6) (c := 5) (by decide) e5, zCh_s (L := 6) (c := 6) (by decide), zCh_s (L := 6) (c := 7) (by decide)]
    rw [show wd (8 * 7 + 0) = nI 115 from hW 56 (by decide), show wd (8 * 7 + 1) = nI 101 from hW 57 (by decide), show wd (8 * 7 + 2) = nI 110 from hW 58 (by decide), show wd (8 * 7 + 3) = nI 115 from hW 59 (by decide), show wd (8 * 7 + 4) = nI 101 from hW 60 (by decide), show wd (8 * 7 + 5) = nI 32 from hW 61 (by decide), show wd (8 * 7 + 6) = nI 32 from hW 62 (by decide), show wd (8 * 7 + 7) = nI 32 from hW 63 (by decide)]
    rw [nI_x (a := 115) (x := 96 + x0) (by decide) (by omega), nI_x (a := 101) (x := 96 + x1) (by decide) (by omega), nI_x (a := 110) (x := 96 + x2) (by decide) (by omega), nI_x (a := 115) (x := 96 + x3) (by decide) (by omega), nI_x (a := 101) (x := 96 + x4) (by decide) (by omega), nI_x (a := 32) (x := 96 + x5) (by decide) (by omega), nI_x (a := 32) (x := 32) (by decide) (by omega)]
    omega
  · rw [zLk_iff]
    rw [zCh_l (L := 6) (c := 0) (by decide) e0, zCh_l (L := 6) (c := 1) (by decide) e1, zCh_l (L := 6) (c := 2) (by decide) e2, zCh_l (L := 6) (c := 3) (by decide) e3, zCh_l (L := 6) (c := 4) (by decide) e4, zCh_l (L := 6) (c := 5) (by decide) e5, zCh_s (L := 6) (c := 6) (by decide), zCh_s (L := 6) (c := 7) (by decide)]
    rw [show wd (8 * 8 + 0) = nI 101 from hW 64 (by decide), show wd (8 * 8 + 1) = nI 121 from hW 65 (by decide), show wd (8 * 8 + 2) = nI 101 from hW 66 (by decide), show wd (8 * 8 + 3) = nI 115 from hW 67 (by decide), show wd (8 * 8 + 4) = nI 32 from hW 68 (by decide), show wd (8 * 8 + 5) = nI 32 from hW 69 (by decide), show wd (8 * 8 + 6) = nI 32 from hW 70 (by decide), show wd (8 * 8 + 7) = nI 32 from hW 71 (by decide)]
    rw [nI_x (a := 101) (x := 96 + x0) (by decide) (by omega), nI_x (a := 121) (x := 96 + x1) (by decide) (by omega), nI_x (a := 101) (x := 96 + x2) (by decide) (by omega), nI_x (a := 115) (x := 96 + x3) (by decide) (by omega), nI_x (a := 32) (x := 96 + x4) (by decide) (by omega), nI_x (a := 32) (x := 96 + x5) (by decide) (by omega), nI_x (a := 32) (x := 32) (by decide) (by omega)]
    omega
  · rw [zLk_iff]
    rw [zCh_l (L := 6) (c := 0) (by decide) e0, zCh_l (L := 6) (c := 1) (by decide) e1, zCh_l (L := 6) (c := 2) (by decide) e2, zCh_l (L := 6) (c := 3) (by decide) e3, zCh_l (L := 6) (c := 4) (by decide) e4, zCh_l (L := 6) (c := 5) (by decide) e5, zCh_s (L := 6) (c := 6) (by decide), zCh_s (L := 6) (c := 7) (by decide)]
    rw [show wd (8 * 9 + 0) = nI 111 from hW 72 (by decide), show wd (8 * 9 + 1) = nI 114 from hW 73 (by decide), show wd (8 * 9 + 2) = nI 32 from hW 74 (by decide), show wd (8 * 9 + 3) = nI 32 from hW 75 (by decide), show wd (8 * 9 + 4) = nI 32 from hW 76 (by decide), show wd (8 * 9 + 5) = nI 32 from hW 77 (by decide), show wd (8 * 9 + 6) = nI 32 from hW 78 (by decide), show wd (8 * 9 + 7) = nI 32 from hW 79 (by decide)]
    rw [nI_x (a := 111) (x := 96 + x0) (by decide) (by omega), nI_x (a := 114) (x := 96 + x1) (by decide) (by omega), nI_x (a := 32) (x := 96 + x2) (by decide) (by omega), nI_x (a := 32) (x := 96 + x3) (by decide) (by omega), nI_x (a := 32) (x := 96 + x4) (by decide) (by omega), nI_x (a := 32) (x := 96 + x5) (by decide) (by omega), nI_x (a := 32) (x := 32) (by decide) (by omega)]
    omega
  · rw [zLk_iff]
    rw [zCh_l (L := 6) (c := 0) (by decide) e0, zCh_l (L := 6) (c := 1) (by decide) e1, zCh_l (L := 6) (c := 2) (by decide) e2, zCh_l (L := 6) (c := 3) (by decide) e3, zCh_l (L := 6) (c := 4) (by decide) e4, zCh_l (L := 6) (c := 5) (by decide) e5, zCh_s (L := 6) (c := 6) (by decide), zCh_s (L := 6) (c := 7) (by decide)]
    rw [show wd (8 * 10 + 0) = nI 97 from hW 80 (by decide), show wd (8 * 10 + 1) = nI 110 from hW 81 (by decide), show wd (8 * 10 + 2) = nI 100 from hW 82 (by decide), show wd (8 * 10 + 3) = nI 32 from hW 83 (by decide), show wd (8 * 10 + 4) = nI 32 from hW 84 (by decide), show wd (8 * 10 + 5) = nI 32 from hW 85 (by decide), show wd (8 * 10 + 6) = nI 32 from hW 86 (by decide), show wd (8 * 10 + 7) = nI 32 from hW 87 (by decide)]
    rw [nI_x (a := 97) (x := 96 + x0) (by decide) (by omega), nI_x (a := 110) (x := 96 + x1) (by decide) (by omega), nI_x (a := 100) (x := 96 + x2) (by decide) (by omega), nI_x (a := 32) (x := 96 + x3) (by decide) (by omega), nI_x (a := 32) (x := 96 + x4) (by decide) (by omega), nI_x (a := 32) (x := 96 + x5) (by decide) (by omega), nI_x (a := 32) (x := 32) (by decide) (by omega)]
    omega
  · rw [zLk_iff]
    rw [zCh_l (L := 6) (c := 0) (by decide) e0, zCh_l (L := 6) (c := 1) (by decide) e1, zCh_l (L := 6) (c := 2) (by decide) e2, zCh_l (L := 6) (c := 3) (by decide) e3, zCh_l (L := 6) (c := 4) (by decide) e4, zCh_l (L := 6) (c := 5) (by decide) e5, zCh_s (L := 6) (c := 6) (by decide), zCh_s (L := 6) (c := 7) (by decide)]
    rw [show wd (8 * 11 + 0) = nI 110 from hW 88 (by decide), show wd (8 * 11 + 1) = nI 111 from hW 89 (by decide), show wd (8 * 11 + 2) = nI 116 from hW 90 (by decide), show wd (8 * 11 + 3) = nI 32 from hW 91 (by decide), show wd (8 * 11 + 4) = nI 32 from hW 92 (by decide), show wd (8 * 11 + 5) = nI 32 from hW 93 (by decide), show wd (8 * 11 + 6) = nI 32 from hW 94 (by decide), show wd (8 * 11 + 7) = nI 32 from hW 95 (by decide)]
    rw [nI_x (a := 110) (x := 96 + x0) (by decide) (by omega), nI_x (a := 111) (x := 96 + x1) (by decide) (by omega), nI_x (a := 116) (x := 96 + x2) (by decide) (by omega), nI_x (a := 32) (x := 96 + x3) (by decide) (by omega), nI_x (a := 32) (x := 96 + x4) (by decide) (by omega), nI_x (a := 32) (x := 96 + x5) (by decide) (by omega), nI_x (a := 32) (x := 32) (by decide) (by omega)]
    omega
theorem lex_long (wd g : Nat → Int32) (n q L : Nat) (hW : ∀ j, j < 96 → wd j = zWd j) (hl : zLet g q L) (hn : q + L ≤ n) (h7 : 7 ≤ L) : wNum g n q L = -4611686018427387904 ∧ ∀ k, k < 12 → zLk wd g q (q + L) k 8 = false := by
  refine ⟨?_, fun k hk => ?_⟩
  · obtain ⟨i, rfl⟩ : ∃ i, L = i + 1 := ⟨L - 1, by omega⟩
    exact wN_long (by omega)
  · cases hx : zLk wd g q (q + L) k 8 with
    | false => rfl
    | true =>
      exfalso
      have h := (zLk_iff.mp hx).2.2.2.2.2.2.2.1
      obtain ⟨x, e, a, b⟩ := lt_x (hl 6 (by omega))
      rw [zCh_l (L := L) (c := 6) (by omega) e, hW _ (by omega)] at h
      have hs : zWd (8 * k + 6) = nI 32 := by
        have hz : ∀ k, k < 12 → zWd (8 * k + 6) = nI 32 := by decide
        exact hz k hk
      rw [hs] at h
      have := (nI_x (by decide) (by omega)).mp h
      omega
/-- one word or none: what both take for the token -/
def tkOf (c : Int32) : Int32 := if 128 ≤ c then (if c ≤ 130 then 3 else if c ≤ 133 then c - 127 else 2) else c
def vaOk (c va : Int32) : Prop := (128 ≤ c → c ≤ 130 → va = c - 128) ∧ (134 ≤ c → c ≤ 139 → va = c - 134)
theorem wz_of (wd g : Nat → Int32) (q e : Nat) (v : Int64) (V : Nat) (hv : v = lN V) (hV : V < 2 ^ 31) (h0 : zLk wd g q e 0 8 = true ↔ V = 89436307) (h1 : zLk wd g q e 1 8 = true ↔ V = 6328499) (h2 : zLk wd g q e 2 8 = true ↔ V = 2275475) (h3 : zLk wd g q e 3 8 = true ↔ V = 20452516) (h4 : zLk wd g q e 4 8 = true ↔ V = 99685) (h5 : zLk wd g q e 5 8 = true ↔ V = 707748) (h6 : zLk wd g q e 6 8 = true ↔ V = 441925) (h7 : zLk wd g q e 7 8 = true ↔ V = 20101733) (h8 : zLk wd g q e 8 8 = true ↔ V = 189619) (h9 : zLk wd g q e 9 8 = true ↔ V = 498) (h10 : zLk wd g q e 10 8 = true ↔ V = 1476) (h11 : zLk wd g q e 11 8 = true ↔ V = 14836) : zTw (zWf wd g q e 12 0) = tkOf (wTok v 12) ∧ vaOk (wTok v 12) (zVw (zWf wd g q e 12 0)) := by
  subst hv
  by_cases g0 : V = 89436307
  ·
    have hz : zWf wd g q e 12 0 = 0 := by
      rw [zWf, if_pos (show zLk wd g q e (0) 8 = true from h0.mpr g0)]
      rfl
    rw [hz, g0, show wTok (lN 89436307) 12 = 128 from by decide]
    exact ⟨by decide, by decide, by decide⟩
  by_cases g1 : V = 6328499
  ·
    have hz : zWf wd g q e 12 0 = 1 := by
      rw [show (12 : Nat) = 11 + 1 from rfl, zWf, if_neg (show ¬ zLk wd g q e (0) 8 = true from fun z => g0 (h0.mp z))]
      rw [zWf, if_pos (show zLk wd g q e (1) 8 = true from h1.mpr g1)]
      rfl
    rw [hz, g1, show wTok (lN 6328499) 12 = 129 from by decide]
    exact ⟨by decide, by decide, by decide⟩
  by_cases g2 : V = 2275475
  ·
    have hz : zWf wd g q e 12 0 = 2 := by
      rw [show (12 : Nat) = 11 + 1 from rfl, zWf, if_neg (show ¬ zLk wd g q e (0) 8 = true from fun z => g0 (h0.mp z))]
      rw [zWf, if_neg (show ¬ zLk wd g q e (1) 8 = true from fun z => g1 (h1.mp z))]
      rw [zWf, if_pos (show zLk wd g q e (2) 8 = true from h2.mpr g2)]
      rfl
    rw [hz, g2, show wTok (lN 2275475) 12 = 130 from by decide]
    exact ⟨by decide, by decide, by decide⟩
  by_cases g3 : V = 20452516
  ·
    have hz : zWf wd g q e 12 0 = 3 := by
      rw [show (12 : Nat) = 11 + 1 from rfl, zWf, if_neg (show ¬ zLk wd g q e (0) 8 = true from fun z => g0 (h0.mp z))]
      rw [zWf, if_neg (show ¬ zLk wd g q e (1) 8 = true from fun z => g1 (h1.mp z))]
      rw [zWf, if_neg (show ¬ zLk wd g q e (2) 8 = true from fun z => g2 (h2.mp z))]
      rw [zWf, if_pos (show zLk wd g q e (3) 8 = true from h3.mpr g3)]
      rfl
    rw [hz, g3, show wTok (lN 20452516) 12 = 134 from by decide]
    exact ⟨by decide, by decide, by decide⟩
  by_cases g4 : V = 99685
  ·
    have hz : zWf wd g q e 12 0 = 4 := by
      rw [show (12 : Nat) = 11 + 1 from rfl, zWf, if_neg (show ¬ zLk wd g q e (0) 8 = true from fun z => g0 (h0.mp z))]
      rw [zWf, if_neg (show ¬ zLk wd g q e (1) 8 = true from fun z => g1 (h1.mp z))]
      rw [zWf, if_neg (show ¬ zLk wd g q e (2) 8 = true from fun z => g2 (h2.mp z))]
      rw [zWf, if_neg (show ¬ zLk wd g q e (3) 8 = true from fun z => g3 (h3.mp z))]
      rw [zWf, if_pos (show zLk wd g q e (4) 8 = true from h4.mpr g4)]
      rfl
    rw [hz, g4, show wTok (lN 99685) 12 = 135 from by decide]
    exact ⟨by decide, by decide, by decide⟩
  by_cases g5 : V = 707748
  ·
    have hz : zWf wd g q e 12 0 = 5 := by
      rw [show (12 : Nat) = 11 + 1 from rfl, zWf, if_neg (show ¬ zLk wd g q e (0) 8 = true from fun z => g0 (h0.mp z))]
      rw [zWf, if_neg (show ¬ zLk wd g q e (1) 8 = true from fun z => g1 (h1.mp z))]
      rw [zWf, if_neg (show ¬ zLk wd g q e (2) 8 = true from fun z => g2 (h2.mp z))]
      rw [zWf, if_neg (show ¬ zLk wd g q e (3) 8 = true from fun z => g3 (h3.mp z))]
      rw [zWf, if_neg (show ¬ zLk wd g q e (4) 8 = true from fun z => g4 (h4.mp z))]
      rw [zWf, if_pos (show zLk wd g q e (5) 8 = true from h5.mpr g5)]
      rfl
    rw [hz, g5, show wTok (lN 707748) 12 = 136 from by decide]
    exact ⟨by decide, by decide, by decide⟩
  by_cases g6 : V = 441925
  ·
    have hz : zWf wd g q e 12 0 = 6 := by
      rw [show (12 : Nat) = 11 + 1 from rfl, zWf, if_neg (show ¬ zLk wd g q e (0) 8 = true from fun z => g0 (h0.mp z))]
      rw [zWf, if_neg (show ¬ zLk wd g q e (1) 8 = true from fun z => g1 (h1.mp z))]
      rw [zWf, if_neg (show ¬ zLk wd g q e (2) 8 = true from fun z => g2 (h2.mp z))]
      rw [zWf, if_neg (show ¬ zLk wd g q e (3) 8 = true from fun z => g3 (h3.mp z))]
      rw [zWf, if_neg (show ¬ zLk wd g q e (4) 8 = true from fun z => g4 (h4.mp z))]
      rw [zWf, if_neg (show ¬ zLk wd g q e (5) 8 = true from fun z => g5 (h5.mp z))]
      rw [zWf, if_pos (show zLk wd g q e (6) 8 = true from h6.mpr g6)]
      rfl
    rw [hz, g6, show wTok (lN 441925) 12 = 137 from by decide]
    exact ⟨by decide, by decide, by decide⟩
  by_cases g7 : V = 20101733
  ·
    have hz : zWf wd g q e 12 0 = 7 := by
      rw [show (12 : Nat) = 11 + 1 from rfl, zWf, if_neg (show ¬ zLk wd g q e (0) 8 = true from fun z => g0 (h0.mp z))]
      rw [zWf, if_neg (show ¬ zLk wd g q e (1) 8 = true from fun z => g1 (h1.mp z))]
      rw [zWf, if_neg (show ¬ zLk wd g q e (2) 8 = true from fun z => g2 (h2.mp z))]
      rw [zWf, if_neg (show ¬ zLk wd g q e (3) 8 = true from fun z => g3 (h3.mp z))]
      rw [zWf, if_neg (show ¬ zLk wd g q e (4) 8 = true from fun z => g4 (h4.mp z))]
      rw [zWf, if_neg (show ¬ zLk wd g q e (5) 8 = true from fun z => g5 (h5.mp z))]
      rw [zWf, if_neg (show ¬ zLk wd g q e (6) 8 = true from fun z => g6 (h6.mp z))]
      rw [zWf, if_pos (show zLk wd g q e (7) 8 = true from h7.mpr g7)]
      rfl
    rw [hz, g7, show wTok (lN 20101733) 12 = 138 from by decide]
    exact ⟨by decide, by decide, by decide⟩
  by_cases g8 : V = 189619
  ·
    have hz : zWf wd g q e 12 0 = 8 := by
      rw [show (12 : Nat) = 11 + 1 from rfl, zWf, if_neg (show ¬ zLk wd g q e (0) 8 = true from fun z => g0 (h0.mp z))]
      rw [zWf, if_neg (show ¬ zLk wd g q e (1) 8 = true from fun z => g1 (h1.mp z))]
      rw [zWf, if_neg (show ¬ zLk wd g q e (2) 8 = true from fun z => g2 (h2.mp z))]
      rw [zWf, if_neg (show ¬ zLk wd g q e (3) 8 = true from fun z => g3 (h3.mp z))]
      rw [zWf, if_neg (show ¬ zLk wd g q e (4) 8 = true from fun z => g4 (h4.mp z))]
      rw [zWf, if_neg (show ¬ zLk wd g q e (5) 8 = true from fun z => g5 (h5.mp z))]
      rw [zWf, if_neg (show ¬ zLk wd g q e (6) 8 = true from fun z => g6 (h6.mp z))]
      rw [zWf, if_neg (show ¬ zLk wd g q e (7) 8 = true from fun z => g7 (h7.mp z))]
      rw [zWf, if_pos (show zLk wd g q e (8) 8 = true from h8.mpr g8)]
      rfl
    rw [hz, g8, show wTok (lN 189619) 12 = 139 from by decide]
    exact ⟨by decide, by decide, by decide⟩
  by_cases g9 : V = 498
  ·
    have hz : zWf wd g q e 12 0 = 9 := by
      rw [show (12 : Nat) = 11 + 1 from rfl, zWf, if_neg (show ¬ zLk wd g q e (0) 8 = true from fun z => g0 (h0.mp z))]
      rw [zWf, if_neg (show ¬ zLk wd g q e (1) 8 = true from fun z => g1 (h1.mp z))]
      rw [zWf, if_neg (show ¬ zLk wd g q e (2) 8 = true from fun z => g2 (h2.mp z))]
      rw [zWf, if_neg (show ¬ zLk wd g q e (3) 8 = true from fun z => g3 (h3.mp z))]
      rw [zWf, if_neg (show ¬ zLk wd g q e (4) 8 = true from fun z => g4 (h4.mp z))]
      rw [zWf, if_neg (show ¬ zLk wd g q e (5) 8 = true from fun z => g5 (h5.mp z))]
      rw [zWf, if_neg (show ¬ zLk wd g q e (6) 8 = true from fun z => g6 (h6.mp z))]
      rw [zWf, if_neg (show ¬ zLk wd g q e (7) 8 = true from fun z => g7 (h7.mp z))]
      rw [zWf, if_neg (show ¬ zLk wd g q e (8) 8 = true from fun z => g8 (h8.mp z))]
      rw [zWf, if_pos (show zLk wd g q e (9) 8 = true from h9.mpr g9)]
      rfl
    rw [hz, g9, show wTok (lN 498) 12 = 131 from by decide]
    exact ⟨by decide, by decide, by decide⟩
  by_cases g10 : V = 1476
  ·
    have hz : zWf wd g q e 12 0 = 10 := by
      rw [show (12 : Nat) = 11 + 1 from rfl, zWf, if_neg (show ¬ zLk wd g q e (0) 8 = true from fun z => g0 (h0.mp z))]
      rw [zWf, if_neg (show ¬ zLk wd g q e (1) 8 = true from fun z => g1 (h1.mp z))]
      rw [zWf, if_neg (show ¬ zLk wd g q e (2) 8 = true from fun z => g2 (h2.mp z))]
      rw [zWf, if_neg (show ¬ zLk wd g q e (3) 8 = true from fun z => g3 (h3.mp z))]
      rw [zWf, if_neg (show ¬ zLk wd g q e (4) 8 = true from fun z => g4 (h4.mp z))]
      rw [zWf, if_neg (show ¬ zLk wd g q e (5) 8 = true from fun z => g5 (h5.mp z))]
      rw [zWf, if_neg (show ¬ zLk wd g q e (6) 8 = true from fun z => g6 (h6.mp z))]
      rw [zWf, if_neg (show ¬ zLk wd g q e (7) 8 = true from fun z => g7 (h7.mp z))]
      rw [zWf, if_neg (show ¬ zLk wd g q e (8) 8 = true from fun z => g8 (h8.mp z))]
      rw [zWf, if_neg (show ¬ zLk wd g q e (9) 8 = true from fun z => g9 (h9.mp z))]
      rw [zWf, if_pos (show zLk wd g q e (10) 8 = true from h10.mpr g10)]
      rfl
    rw [hz, g10, show wTok (lN 1476) 12 = 132 from by decide]
    exact ⟨by decide, by decide, by decide⟩
  by_cases g11 : V = 14836
  ·
    have hz : zWf wd g q e 12 0 = 11 := by
      rw [show (12 : Nat) = 11 + 1 from rfl, zWf, if_neg (show ¬ zLk wd g q e (0) 8 = true from fun z => g0 (h0.mp z))]
      rw [zWf, if_neg (show ¬ zLk wd g q e (1) 8 = true from fun z => g1 (h1.mp z))]
      rw [zWf, if_neg (show ¬ zLk wd g q e (2) 8 = true from fun z => g2 (h2.mp z))]
      rw [zWf, if_neg (show ¬ zLk wd g q e (3) 8 = true from fun z => g3 (h3.mp z))]
      rw [zWf, if_neg (show ¬ zLk wd g q e (4) 8 = true from fun z => g4 (h4.mp z))]
      rw [zWf, if_neg (show ¬ zLk wd g q e (5) 8 = true from fun z => g5 (h5.mp z))]
      rw [zWf, if_neg (show ¬ zLk wd g q e (6) 8 = true from fun z => g6 (h6.mp z))]
      rw [zWf, if_neg (show ¬ zLk wd g q e (7) 8 = true from fun z => g7 (h7.mp z))]
      rw [zWf, if_neg (show ¬ zLk wd g q e (8) 8 = true from fun z => g8 (h8.mp z))]
      rw [zWf, if_neg (show ¬ zLk wd g q e (9) 8 = true from fun z => g9 (h9.mp z))]
      rw [zWf, if_neg (show ¬ zLk wd g q e (10) 8 = true from fun z => g10 (h10.mp z))]
      rw [zWf, if_pos (show zLk wd g q e (11) 8 = true from h11.mpr g11)]
      rfl
    rw [hz, g11, show wTok (lN 14836) 12 = 133 from by decide]
    exact ⟨by decide, by decide, by decide⟩
  · have hz : zWf wd g q e 12 0 = 12 := by
      rw [zWf, if_neg (show ¬ zLk wd g q e (0) 8 = true from fun z => g0 (h0.mp z))]
      rw [zWf, if_neg (show ¬ zLk wd g q e (1) 8 = true from fun z => g1 (h1.mp z))]
      rw [zWf, if_neg (show ¬ zLk wd g q e (2) 8 = true from fun z => g2 (h2.mp z))]
      rw [zWf, if_neg (show ¬ zLk wd g q e (3) 8 = true from fun z => g3 (h3.mp z))]
      rw [zWf, if_neg (show ¬ zLk wd g q e (4) 8 = true from fun z => g4 (h4.mp z))]
      rw [zWf, if_neg (show ¬ zLk wd g q e (5) 8 = true from fun z => g5 (h5.mp z))]
      rw [zWf, if_neg (show ¬ zLk wd g q e (6) 8 = true from fun z => g6 (h6.mp z))]
      rw [zWf, if_neg (show ¬ zLk wd g q e (7) 8 = true from fun z => g7 (h7.mp z))]
      rw [zWf, if_neg (show ¬ zLk wd g q e (8) 8 = true from fun z => g8 (h8.mp z))]
      rw [zWf, if_neg (show ¬ zLk wd g q e (9) 8 = true from fun z => g9 (h9.mp z))]
      rw [zWf, if_neg (show ¬ zLk wd g q e (10) 8 = true from fun z => g10 (h10.mp z))]
      rw [zWf, if_neg (show ¬ zLk wd g q e (11) 8 = true from fun z => g11 (h11.mp z))]
      rfl
    have hw : wTok (lN V) 12 = -1 := by
      rw [wTok, if_neg (show ¬ wL 11 = lN V from fun z => g8 ((lN_eq (a := 189619) (b := V) (by decide) hV).mp z).symm)]
      rw [wTok, if_neg (show ¬ wL 10 = lN V from fun z => g7 ((lN_eq (a := 20101733) (b := V) (by decide) hV).mp z).symm)]
      rw [wTok, if_neg (show ¬ wL 9 = lN V from fun z => g6 ((lN_eq (a := 441925) (b := V) (by decide) hV).mp z).symm)]
      rw [wTok, if_neg (show ¬ wL 8 = lN V from fun z => g5 ((lN_eq (a := 707748) (b := V) (by decide) hV).mp z).symm)]
      rw [wTok, if_neg (show ¬ wL 7 = lN V from fun z => g4 ((lN_eq (a := 99685) (b := V) (by decide) hV).mp z).symm)]
      rw [wTok, if_neg (show ¬ wL 6 = lN V from fun z => g3 ((lN_eq (a := 20452516) (b := V) (by decide) hV).mp z).symm)]
      rw [wTok, if_neg (show ¬ wL 5 = lN V from fun z => g11 ((lN_eq (a := 14836) (b := V) (by decide) hV).mp z).symm)]
      rw [wTok, if_neg (show ¬ wL 4 = lN V from fun z => g10 ((lN_eq (a := 1476) (b := V) (by decide) hV).mp z).symm)]
      rw [wTok, if_neg (show ¬ wL 3 = lN V from fun z => g9 ((lN_eq (a := 498) (b := V) (by decide) hV).mp z).symm)]
      rw [wTok, if_neg (show ¬ wL 2 = lN V from fun z => g2 ((lN_eq (a := 2275475) (b := V) (by decide) hV).mp z).symm)]
      rw [wTok, if_neg (show ¬ wL 1 = lN V from fun z => g1 ((lN_eq (a := 6328499) (b := V) (by decide) hV).mp z).symm)]
      rw [wTok, if_neg (show ¬ wL 0 = lN V from fun z => g0 ((lN_eq (a := 89436307) (b := V) (by decide) hV).mp z).symm)]
      rfl
    rw [hz, hw]
    exact ⟨by decide, fun h => absurd h (by decide), fun h => absurd h (by decide)⟩
theorem wz_no (wd g : Nat → Int32) (q e : Nat) (h : ∀ k, k < 12 → zLk wd g q e k 8 = false) : zWf wd g q e 12 0 = 12 := by
  rw [zWf, if_neg (show ¬ zLk wd g q e (0) 8 = true from fun z => by rw [h 0 (by decide)] at z; exact absurd z (by decide))]
  rw [zWf, if_neg (show ¬ zLk wd g q e (1) 8 = true from fun z => by rw [h 1 (by decide)] at z; exact absurd z (by decide))]
  rw [zWf, if_neg (show ¬ zLk wd g q e (2) 8 = true from fun z => by rw [h 2 (by decide)] at z; exact absurd z (by decide))]
  rw [zWf, if_neg (show ¬ zLk wd g q e (3) 8 = true from fun z => by rw [h 3 (by decide)] at z; exact absurd z (by decide))]
  rw [zWf, if_neg (show ¬ zLk wd g q e (4) 8 = true from fun z => by rw [h 4 (by decide)] at z; exact absurd z (by decide))]
  rw [zWf, if_neg (show ¬ zLk wd g q e (5) 8 = true from fun z => by rw [h 5 (by decide)] at z; exact absurd z (by decide))]
  rw [zWf, if_neg (show ¬ zLk wd g q e (6) 8 = true from fun z => by rw [h 6 (by decide)] at z; exact absurd z (by decide))]
  rw [zWf, if_neg (show ¬ zLk wd g q e (7) 8 = true from fun z => by rw [h 7 (by decide)] at z; exact absurd z (by decide))]
  rw [zWf, if_neg (show ¬ zLk wd g q e (8) 8 = true from fun z => by rw [h 8 (by decide)] at z; exact absurd z (by decide))]
  rw [zWf, if_neg (show ¬ zLk wd g q e (9) 8 = true from fun z => by rw [h 9 (by decide)] at z; exact absurd z (by decide))]
  rw [zWf, if_neg (show ¬ zLk wd g q e (10) 8 = true from fun z => by rw [h 10 (by decide)] at z; exact absurd z (by decide))]
  rw [zWf, if_neg (show ¬ zLk wd g q e (11) 8 = true from fun z => by rw [h 11 (by decide)] at z; exact absurd z (by decide))]
  rfl
theorem wz_all (wd g : Nat → Int32) (n q L : Nat) (hW : ∀ j, j < 96 → wd j = zWd j) (hl : zLet g q L) (hn : q + L ≤ n) (h1 : 1 ≤ L) : zTw (zWf wd g q (q + L) 12 0) = tkOf (wTok (wNum g n q L) 12) ∧ vaOk (wTok (wNum g n q L) 12) (zVw (zWf wd g q (q + L) 12 0)) := by
  rcases Nat.lt_or_ge L 7 with h | h
  · have hc : L = 1 ∨ L = 2 ∨ L = 3 ∨ L = 4 ∨ L = 5 ∨ L = 6 := by omega
    rcases hc with rfl | rfl | rfl | rfl | rfl | rfl
    · obtain ⟨V, hV, hv, h0, h1, h2, h3, h4, h5, h6, h7, h8, h9, h10, h11⟩ := lex_1 wd g n q hW hl hn
      exact wz_of wd g q _ _ V hv hV h0 h1 h2 h3 h4 h5 h6 h7 h8 h9 h10 h11
    · obtain ⟨V, hV, hv, h0, h1, h2, h3, h4, h5, h6, h7, h8, h9, h10, h11⟩ := lex_2 wd g n q hW hl hn
      exact wz_of wd g q _ _ V hv hV h0 h1 h2 h3 h4 h5 h6 h7 h8 h9 h10 h11
    · obtain ⟨V, hV, hv, h0, h1, h2, h3, h4, h5, h6, h7, h8, h9, h10, h11⟩ := lex_3 wd g n q hW hl hn
      exact wz_of wd g q _ _ V hv hV h0 h1 h2 h3 h4 h5 h6 h7 h8 h9 h10 h11
    · obtain ⟨V, hV, hv, h0, h1, h2, h3, h4, h5, h6, h7, h8, h9, h10, h11⟩ := lex_4 wd g n q hW hl hn
      exact wz_of wd g q _ _ V hv hV h0 h1 h2 h3 h4 h5 h6 h7 h8 h9 h10 h11
    · obtain ⟨V, hV, hv, h0, h1, h2, h3, h4, h5, h6, h7, h8, h9, h10, h11⟩ := lex_5 wd g n q hW hl hn
      exact wz_of wd g q _ _ V hv hV h0 h1 h2 h3 h4 h5 h6 h7 h8 h9 h10 h11
    · obtain ⟨V, hV, hv, h0, h1, h2, h3, h4, h5, h6, h7, h8, h9, h10, h11⟩ := lex_6 wd g n q hW hl hn
      exact wz_of wd g q _ _ V hv hV h0 h1 h2 h3 h4 h5 h6 h7 h8 h9 h10 h11
  · obtain ⟨hv, hz⟩ := lex_long wd g n q L hW hl hn h
    rw [hv, wz_no wd g q _ hz]
    exact ⟨by decide, fun h => absurd h (by decide), fun h => absurd h (by decide)⟩
