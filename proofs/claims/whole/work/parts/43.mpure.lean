theorem xin_n {k a b : Nat} (hk : k < 2 ^ 31) (ha : a < 2 ^ 31) (hb : b < 2 ^ 31) : xin (nI k) (nI a) (nI b) = true ↔ a ≤ k ∧ k ≤ b := by
  rw [xin_iff, nI_leI ha hk, nI_leI hk hb]
theorem q_div {k : Nat} (hk : k < 2 ^ 31) (d : Nat) (h0 : 0 < d) (hd : d < 2 ^ 31) : nI k / nI d = nI (k / d) := pk_div hk h0 hd
theorem q_rem {k : Nat} (hk : k < 2 ^ 31) (d : Nat) (h0 : 0 < d) (hd : d < 2 ^ 31) : nI k - nI k / nI d * nI d = nI (k % d) := pk_rem hk h0 hd
theorem xneg {v lo hi : Int32} (h : v < 0) (hl : 0 ≤ lo) : ¬ xin v lo hi = true := by
  rw [xin_iff]
  grind
theorem xsp_n {k : Nat} (hk : k < 2 ^ 31) : xsp (nI k) = true ↔ 11 ≤ k ∧ k ≤ 99 ∧ 0 < k % 10 := by
  have e1 : nI k / 10 = nI (k / 10) := q_div hk 10 (by decide) (by decide)
  have e2 : nI k - nI (k / 10) * 10 = nI (k % 10) := by rw [← e1]; exact q_rem hk 10 (by decide) (by decide)
  have a1 : xin (nI (k / 10)) 1 9 = true ↔ 1 ≤ k / 10 ∧ k / 10 ≤ 9 := xin_n (by omega) (by decide) (by decide)
  have a2 : xin (nI (k % 10)) 1 9 = true ↔ 1 ≤ k % 10 ∧ k % 10 ≤ 9 := xin_n (by omega) (by decide) (by decide)
  have a3 : (0 : Int32) < nI k ↔ 0 < k := nI_ltI (a := 0) (by decide) hk
  rw [xsp, e1, e2, Bool.and_eq_true, Bool.and_eq_true, decide_eq_true_eq, a1, a2, a3]
  omega
theorem mDig_n {k : Nat} (hk : k < 2 ^ 31) : mDig (nI k) = true ↔ 11 ≤ k ∧ k ≤ 99 ∧ 0 < k % 10 := by
  have e2 : nI k - nI k / 10 * 10 = nI (k % 10) := q_rem hk 10 (by decide) (by decide)
  have a1 : xin (nI k) 11 99 = true ↔ 11 ≤ k ∧ k ≤ 99 := xin_n hk (by decide) (by decide)
  have a3 : (0 : Int32) < nI (k % 10) ↔ 0 < k % 10 := nI_ltI (a := 0) (by decide) (by omega)
  rw [mDig, e2, Bool.and_eq_true, decide_eq_true_eq, a1, a3]
  omega
theorem mDig_eq (v : Int32) : mDig v = xsp v := by
  rw [Bool.eq_iff_iff]
  by_cases h : v < 0
  · constructor
    · intro q
      rw [mDig, Bool.and_eq_true] at q
      exact absurd q.1 (xneg h (by decide))
    · intro q
      rw [xsp, Bool.and_eq_true, Bool.and_eq_true, decide_eq_true_eq] at q
      grind
  · obtain ⟨k, hk, rfl⟩ := nI_of h
    rw [mDig_n hk, xsp_n hk]
theorem mOdd_eq (v : Int32) : mOdd v = xop v := by
  rw [Bool.eq_iff_iff]
  by_cases h : v < 0
  · constructor
    · intro q
      rw [mOdd, Bool.and_eq_true] at q
      exact absurd q.1 (xneg h (by decide))
    · intro q
      rw [xop, Bool.and_eq_true, Bool.and_eq_true, decide_eq_true_eq] at q
      grind
  · obtain ⟨k, hk, rfl⟩ := nI_of h
    have e1 : nI k / 10 = nI (k / 10) := q_div hk 10 (by decide) (by decide)
    have e2 : nI k - nI (k / 10) * 10 = nI (k % 10) := by rw [← e1]; exact q_rem hk 10 (by decide) (by decide)
    have a1 : xin (nI (k / 10)) 0 100 = true ↔ 0 ≤ k / 10 ∧ k / 10 ≤ 100 := xin_n (by omega) (by decide) (by decide)
    have a2 : xin (nI (k % 10)) 1 9 = true ↔ 1 ≤ k % 10 ∧ k % 10 ≤ 9 := xin_n (by omega) (by decide) (by decide)
    have a3 : (0 : Int32) < nI k ↔ 0 < k := nI_ltI (a := 0) (by decide) hk
    have a4 : xin (nI k) 1 1009 = true ↔ 1 ≤ k ∧ k ≤ 1009 := xin_n hk (by decide) (by decide)
    have a5 : (0 : Int32) < nI (k % 10) ↔ 0 < k % 10 := nI_ltI (a := 0) (by decide) (by omega)
    rw [xop, mOdd, e1, e2, Bool.and_eq_true, Bool.and_eq_true, Bool.and_eq_true, decide_eq_true_eq, decide_eq_true_eq, a1, a2, a3, a4, a5]
    omega
theorem mRace_eq (n sp fw what : Int32) : mRace n sp fw what = xrace n sp fw what := by rw [mRace, xrace, mDig_eq]
theorem xnum_n {k m : Nat} (hk : k < 2 ^ 31) (hm : m ≤ 9) : xnum (nI k) (nI m) = true ↔ 10 * m ≤ k ∧ k ≤ 91 ∧ k % 10 ≤ 1 := by
  have e1 : nI k / 10 = nI (k / 10) := q_div hk 10 (by decide) (by decide)
  have e2 : nI k - nI (k / 10) * 10 = nI (k % 10) := by rw [← e1]; exact q_rem hk 10 (by decide) (by decide)
  have a1 : xin (nI (k / 10)) (nI m) 9 = true ↔ m ≤ k / 10 ∧ k / 10 ≤ 9 := xin_n (by omega) (by omega) (by decide)
  have a2 : xin (nI (k % 10)) 0 1 = true ↔ 0 ≤ k % 10 ∧ k % 10 ≤ 1 := xin_n (by omega) (by decide) (by decide)
  have a3 : (0 : Int32) ≤ nI k ↔ 0 ≤ k := nI_leI (a := 0) (by decide) hk
  rw [xnum, e1, e2, Bool.and_eq_true, Bool.and_eq_true, decide_eq_true_eq, a1, a2, a3]
  omega
theorem xnum_iff {v : Int32} {m : Nat} (hm : m ≤ 9) : xnum v (nI m) = true ↔ xin v (nI (10 * m)) 91 = true ∧ v - v / 10 * 10 ≤ 1 := by
  by_cases h : v < 0
  · constructor
    · intro q
      rw [xnum, Bool.and_eq_true, Bool.and_eq_true, decide_eq_true_eq] at q
      grind
    · intro q
      exact absurd q.1 (xneg h (nI_pos' (by omega)))
  · obtain ⟨k, hk, rfl⟩ := nI_of h
    have e2 : nI k - nI k / 10 * 10 = nI (k % 10) := q_rem hk 10 (by decide) (by decide)
    have a1 : xin (nI k) (nI (10 * m)) 91 = true ↔ 10 * m ≤ k ∧ k ≤ 91 := xin_n hk (by omega) (by decide)
    have a2 : nI (k % 10) ≤ 1 ↔ k % 10 ≤ 1 := nI_leI (b := 1) (by omega) (by decide)
    rw [xnum_n hk hm, e2, a1, a2]
    omega
theorem xnum_1 {v : Int32} : xnum v 1 = true ↔ xin v 10 91 = true ∧ v - v / 10 * 10 ≤ 1 := xnum_iff (m := 1) (by decide)
theorem xnum_0 {v : Int32} : xnum v 0 = true ↔ xin v 0 91 = true ∧ v - v / 10 * 10 ≤ 1 := xnum_iff (m := 0) (by decide)
theorem xwsp_iff {v : Int32} : xwsp v = true ↔ xin v 0 6099 = true ∧ xsp (v - v / 100 * 100) = true := by
  by_cases h : v < 0
  · constructor
    · intro q
      rw [xwsp, Bool.and_eq_true, Bool.and_eq_true, decide_eq_true_eq] at q
      grind
    · intro q
      exact absurd q.1 (xneg h (by decide))
  · obtain ⟨k, hk, rfl⟩ := nI_of h
    have e1 : nI k / 100 = nI (k / 100) := q_div hk 100 (by decide) (by decide)
    have e2 : nI k - nI (k / 100) * 100 = nI (k % 100) := by rw [← e1]; exact q_rem hk 100 (by decide) (by decide)
    have a1 : xin (nI (k / 100)) 0 60 = true ↔ 0 ≤ k / 100 ∧ k / 100 ≤ 60 := xin_n (by omega) (by decide) (by decide)
    have a3 : (0 : Int32) < nI k ↔ 0 < k := nI_ltI (a := 0) (by decide) hk
    have a4 : xin (nI k) 0 6099 = true ↔ 0 ≤ k ∧ k ≤ 6099 := xin_n hk (by decide) (by decide)
    rw [xwsp, e1, e2, Bool.and_eq_true, Bool.and_eq_true, decide_eq_true_eq, a1, a3, a4, xsp_n (k := k % 100) (by omega)]
    omega
theorem xss_iff {v : Int32} : xss v = true ↔ xin v 0 6040 = true ∧ xin (v - v / 100 * 100) 1 40 = true := by
  by_cases h : v < 0
  · constructor
    · intro q
      rw [xss, Bool.and_eq_true, Bool.and_eq_true, decide_eq_true_eq] at q
      grind
    · intro q
      exact absurd q.1 (xneg h (by decide))
  · obtain ⟨k, hk, rfl⟩ := nI_of h
    have e1 : nI k / 100 = nI (k / 100) := q_div hk 100 (by decide) (by decide)
    have e2 : nI k - nI (k / 100) * 100 = nI (k % 100) := by rw [← e1]; exact q_rem hk 100 (by decide) (by decide)
    have a1 : xin (nI (k / 100)) 0 60 = true ↔ 0 ≤ k / 100 ∧ k / 100 ≤ 60 := xin_n (by omega) (by decide) (by decide)
    have a2 : xin (nI (k % 100)) 1 40 = true ↔ 1 ≤ k % 100 ∧ k % 100 ≤ 40 := xin_n (by omega) (by decide) (by decide)
    have a3 : (0 : Int32) < nI k ↔ 0 < k := nI_ltI (a := 0) (by decide) hk
    have a4 : xin (nI k) 0 6040 = true ↔ 0 ≤ k ∧ k ≤ 6040 := xin_n hk (by decide) (by decide)
    rw [xss, e1, e2, Bool.and_eq_true, Bool.and_eq_true, decide_eq_true_eq, a1, a2, a3, a4]
    omega
