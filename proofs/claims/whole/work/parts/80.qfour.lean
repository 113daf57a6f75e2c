theorem xTop {z : Nat} (hz : z ≤ 40) (x : Int32) : xin x 0 (nI z - 1) = true ↔ ∃ k, k < z ∧ x = nI k := by
  rw [xin_iff]
  constructor
  · intro h
    obtain ⟨k, hk, rfl⟩ := nI_of (x := x) (Int32.not_lt.mpr h.1)
    cases z with
    | zero => exact absurd (Int32.le_trans h.1 h.2) (by decide)
    | succ m =>
      have h2 := h.2
      rw [nI_pred, nI_leI hk (by omega)] at h2
      exact ⟨k, by omega, rfl⟩
  · rintro ⟨k, hk, rfl⟩
    obtain ⟨m, rfl⟩ : ∃ m, z = m + 1 := ⟨z - 1, by omega⟩
    rw [nI_pred]
    exact ⟨(nI_nn (by omega)).2.2, (nI_leI (by omega) (by omega)).mpr (by omega)⟩
theorem shHas_n {f : Nat → Int32} {z : Nat} (hz : z ≤ 40) (h : f 2 = nI z) (x : Int32) : shHas f x = true ↔ ∃ k, k < z ∧ x = nI k := by
  simp only [shHas, Bool.and_eq_true, decide_eq_true_eq, h]
  constructor
  · rintro ⟨⟨h1, h2⟩, h3⟩
    obtain ⟨k, hk, rfl⟩ := nI_of (x := x) (Int32.not_lt.mpr h1)
    exact ⟨k, (nI_ltI hk (by omega)).mp h2, rfl⟩
  · rintro ⟨k, hk, rfl⟩
    exact ⟨⟨(nI_nn (by omega)).2.2, nI_lt hk (by omega)⟩, (nI_ltI (b := 40) (by omega) (by decide)).mpr (by omega)⟩
theorem shRow_n {f : Nat → Int32} {z : Nat} (hz : z ≤ 40) (h : f 2 = nI z) (x n : Int32) : shRow f x n = true ↔ ∃ k N, x = nI k ∧ n = nI N ∧ k + N ≤ z := by
  simp only [shRow, Bool.and_eq_true, decide_eq_true_eq, h]
  constructor
  · rintro ⟨⟨⟨h1, h2⟩, h3⟩, h4⟩
    obtain ⟨k, hk, rfl⟩ := nI_of (x := x) (Int32.not_lt.mpr h3)
    obtain ⟨N, hN, rfl⟩ := nI_of (x := n) (Int32.not_lt.mpr h1)
    have a := (nI_leI hN (by omega)).mp h2
    rw [pk_sub a, nI_leI hk (by omega)] at h4
    exact ⟨k, N, rfl, rfl, by omega⟩
  · rintro ⟨k, N, rfl, rfl, hkN⟩
    rw [pk_sub (show N ≤ z by omega)]
    exact ⟨⟨⟨(nI_nn (by omega)).2.2, (nI_leI (by omega) (by omega)).mpr (by omega)⟩, (nI_nn (by omega)).2.2⟩, (nI_leI (by omega) (by omega)).mpr (by omega)⟩
def shRel (I : xI) (sz : Nat → Nat) : Prop := ∀ q, q < 4 → I (51 + 2 * q) 1 = I 67 q ∧ I (51 + 2 * q) 2 = nI (sz q) ∧ I 68 q = nI (sz q) ∧ sz q ≤ 40 ∧ ∀ k, k < 40 → I (51 + 2 * q + 1) k = I 69 (40 * q + k)
theorem sh_cell {I : xI} {sz : Nat → Nat} (h : shRel I sz) (s x v : Int32) : aCellM I s x v = aCell I s x v := by
  have hs : ∀ q, q < 4 → (fun q => I (51 + 2 * q) 1) q = I 67 q := fun q hq => (h q hq).1
  unfold aCellM aCell
  rw [rSheet_c hs]
  by_cases ht : rSheet (I 67) s = 0
  · obtain ⟨q, hq, e1, -⟩ := rSheet_ok ht
    obtain ⟨a1, a2, a3, a4, a5⟩ := h q hq
    have e : xin x 0 (nI (sz q) - 1) = true ↔ shHas (I (51 + 2 * q)) x = true := (xTop a4 x).trans (shHas_n a4 a2 x).symm
    rw [if_pos ht, if_pos ht, e1, nI_cl (show q < 2 ^ 31 by omega), a3]
    by_cases z : shHas (I (51 + 2 * q)) x = true
    · rw [if_pos z, if_pos (e.mpr z)]
    · rw [if_neg z, if_neg (fun y => z (e.mp y))]
  · rw [if_neg ht, if_neg ht]
theorem cp_cond {z z' : Nat} (hz : z ≤ 40) (hz' : z' ≤ 40) (i j n : Int32) : (0 ≤ n ∧ 0 ≤ i ∧ 0 ≤ j ∧ i ≤ nI z ∧ j ≤ nI z' ∧ n ≤ nI z - i ∧ n ≤ nI z' - j) ↔ ∃ x y N, i = nI x ∧ j = nI y ∧ n = nI N ∧ x + N ≤ z ∧ y + N ≤ z' := by
  constructor
  · rintro ⟨h1, h2, h3, h4, h5, h6, h7⟩
    obtain ⟨x, N, rfl, rfl, a⟩ := cp_nat hz h2 h1 h4 h6
    obtain ⟨y, M, rfl, e, b⟩ := cp_nat hz' h3 h1 h5 h7
    have : N = M := (nI_eq (by omega) (by omega)).mp e
    subst this
    exact ⟨x, y, N, rfl, rfl, rfl, a, b⟩
  · rintro ⟨x, y, N, rfl, rfl, rfl, a, b⟩
    rw [pk_sub (show x ≤ z by omega), pk_sub (show y ≤ z' by omega)]
    exact ⟨(nI_nn (by omega)).2.2, (nI_nn (by omega)).2.2, (nI_nn (by omega)).2.2, (nI_leI (by omega) (by omega)).mpr (by omega), (nI_leI (by omega) (by omega)).mpr (by omega), (nI_leI (by omega) (by omega)).mpr (by omega), (nI_leI (by omega) (by omega)).mpr (by omega)⟩
theorem row_cond {f f' : Nat → Int32} {z z' : Nat} (hz : z ≤ 40) (hz' : z' ≤ 40) (h : f 2 = nI z) (h' : f' 2 = nI z') (i j n : Int32) : (shRow f i n = true ∧ shRow f' j n = true) ↔ ∃ x y N, i = nI x ∧ j = nI y ∧ n = nI N ∧ x + N ≤ z ∧ y + N ≤ z' := by
  rw [shRow_n hz h, shRow_n hz' h']
  constructor
  · rintro ⟨⟨x, N, rfl, rfl, a⟩, y, M, rfl, e, b⟩
    have : N = M := (nI_eq (by omega) (by omega)).mp e
    subst this
    exact ⟨x, y, N, rfl, rfl, rfl, a, b⟩
  · rintro ⟨x, y, N, rfl, rfl, rfl, a, b⟩
    exact ⟨⟨x, N, rfl, rfl, a⟩, y, N, rfl, rfl, b⟩
theorem sh_copy {I : xI} {sz : Nat → Nat} (h : shRel I sz) (s i o j n : Int32) : aCopyM I s i o j n = aCopy I s i o j n ∧ (okCopyM I s i o j n ↔ okCopy I s i o j n = true) := by
  by_cases h1 : xin s 0 3 = true ∧ xin o 0 3 = true
  · obtain ⟨q, hq, rfl⟩ := cTop (n := 3) (by decide) h1.1
    obtain ⟨p, hp, rfl⟩ := cTop (n := 3) (by decide) h1.2
    obtain ⟨a1, a2, a3, a4, a5⟩ := h q (by omega)
    obtain ⟨b1, b2, b3, b4, b5⟩ := h p (by omega)
    have e := (cp_cond a4 b4 i j n).trans (row_cond a4 b4 a2 b2 i j n).symm
    constructor
    · unfold aCopyM aCopy
      rw [if_pos h1, if_pos h1, nI_cl (show q < 2 ^ 31 by omega), nI_cl (show p < 2 ^ 31 by omega), a1, b1, a3, b3]
      by_cases h2 : I 67 q = -1 ∨ I 67 p = -1
      · rw [if_pos h2, if_pos h2]
      · rw [if_neg h2, if_neg h2]
        by_cases h3 : I 67 q = I 67 p
        · rw [if_pos h3, if_pos h3]
          by_cases h4 : shRow (I (51 + 2 * q)) i n = true ∧ shRow (I (51 + 2 * p)) j n = true
          · rw [if_pos h4, if_pos (e.mpr h4)]
          · rw [if_neg h4, if_neg (fun z => h4 (e.mp z))]
        · rw [if_neg h3, if_neg h3]
    · unfold okCopyM okCopy
      simp only [Bool.and_eq_true, Bool.not_eq_true', decide_eq_true_eq, decide_eq_false_iff_not, nI_cl (show q < 2 ^ 31 by omega), nI_cl (show p < 2 ^ 31 by omega), a1, b1, a3, b3]
      rw [e]
      constructor
      · rintro ⟨z1, z2, z3, z4, z5, z6, z7⟩
        exact ⟨⟨⟨⟨⟨⟨z1, z2⟩, z3⟩, z4⟩, z5⟩, z6⟩, z7⟩
      · rintro ⟨⟨⟨⟨⟨⟨z1, z2⟩, z3⟩, z4⟩, z5⟩, z6⟩, z7⟩
        exact ⟨z1, z2, z3, z4, z5, z6, z7⟩
  · constructor
    · unfold aCopyM aCopy
      rw [if_neg h1, if_neg h1]
    · unfold okCopyM okCopy
      constructor
      · intro z; exact absurd ⟨z.1, z.2.1⟩ h1
      · intro z
        simp only [Bool.and_eq_true] at z
        exact absurd ⟨z.1.1.1.1.1.1, z.1.1.1.1.1.2⟩ h1
