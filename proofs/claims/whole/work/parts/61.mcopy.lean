def cpA (a b k : Nat) (g : Nat → Int32) : Nat → Int32 := fun j => if b ≤ j ∧ j < b + k then g (a + (j - b)) else g j
def cpD (a b N k : Nat) (g : Nat → Int32) : Nat → Int32 := fun j => if b + (N - k) ≤ j ∧ j < b + N then g (a + (j - b)) else g j
theorem cpA_0 (a b : Nat) (g : Nat → Int32) : cpA a b 0 g = g := by
  funext j
  rw [cpA, if_neg (by omega)]
theorem cpD_0 (a b N : Nat) (g : Nat → Int32) : cpD a b N 0 g = g := by
  funext j
  rw [cpD, if_neg (by omega)]
theorem cpD_N (a b N : Nat) (g : Nat → Int32) : cpD a b N N g = cpA a b N g := by
  funext j
  rw [cpD, cpA, Nat.sub_self, Nat.add_zero]
theorem cpA_s {a b : Nat} (h : b ≤ a) (k : Nat) (g : Nat → Int32) : xup (cpA a b k g) (b + k) ((cpA a b k g) (a + k)) = cpA a b (k + 1) g := by
  have e0 : cpA a b k g (a + k) = g (a + k) := by rw [cpA, if_neg (by omega)]
  funext j
  by_cases e : j = b + k
  · subst e
    rw [xup_s, e0, cpA, if_pos (show b ≤ b + k ∧ b + k < b + (k + 1) by omega), show b + k - b = k by omega]
  · rw [xup_n _ _ e, cpA, cpA]
    by_cases h2 : b ≤ j ∧ j < b + k
    · rw [if_pos h2, if_pos (show b ≤ j ∧ j < b + (k + 1) by omega)]
    · rw [if_neg h2, if_neg (by omega)]
theorem cpD_s {a b N k z : Nat} (h : a < b) (hz : z + k + 1 = N) (g : Nat → Int32) : xup (cpD a b N k g) (b + z) ((cpD a b N k g) (a + z)) = cpD a b N (k + 1) g := by
  have e0 : cpD a b N k g (a + z) = g (a + z) := by rw [cpD, if_neg (by omega)]
  funext j
  by_cases e : j = b + z
  · subst e
    rw [xup_s, e0, cpD, if_pos (show b + (N - (k + 1)) ≤ b + z ∧ b + z < b + N by omega), show b + z - b = z by omega]
  · rw [xup_n _ _ e, cpD, cpD]
    by_cases h2 : b + (N - k) ≤ j ∧ j < b + N
    · rw [if_pos h2, if_pos (show b + (N - (k + 1)) ≤ j ∧ j < b + N by omega)]
    · rw [if_neg h2, if_neg (by omega)]
theorem cp_lin (q x : Nat) : 40 * nI q + nI x = nI (40 * q + x) := by
  show nI 40 * nI q + nI x = _
  rw [nI_mul, nI_add]
theorem cp_z {z k N : Nat} (h : z + k + 1 = N) : nI N - 1 - nI k = nI z := by rw [← h, nI_pred, pk_sub (by omega), Nat.add_sub_cancel]
def Q_Model_copy_A (l : Launch) (G : xG) (d nn : Nat) (J : xI) (q p : Nat) (i j : Int32) (N a b : Nat) (g : Nat → Int32) (k : Nat) : Prop := XW l G (xR d 0 0) y_Model_copy b_Model_copy 10 (some .int) xK0 (xZ G nn (xm G xYf (xup J 69 (cpA a b N g))) (some (.int (nI N))) 0 0) nn (xm G xYf (xup J 69 (cpA a b k g))) 0 0 147 [(0, .ref (xg G 59)), (1, .int (nI q)), (2, .int i), (3, .int (nI p)), (4, .int j), (5, .int (nI N)), (6, .int (nI a)), (7, .int (nI b)), (8, .int (nI k))] []
theorem w_Model_copy_A (l : Launch) (G : xG) {d : Nat} (nn : Nat) (J : xI) (q p : Nat) (i j : Int32) (N a b : Nat) (ha : a + N ≤ 160) (hb : b + N ≤ 160) (hab : b ≤ a) (g : Nat → Int32) (k : Nat) (hk : k ≤ N) (ih : k < N → Q_Model_copy_A l G d nn J q p i j N a b g (k + 1)) : Q_Model_copy_A l G d nn J q p i j N a b g k := by
  unfold Q_Model_copy_A
  refine X_iload d_Model_copy_147 rfl ?_
  refine X_iload d_Model_copy_149 rfl ?_
  refine X_icmp_ge (tgt := 201) d_Model_copy_151 (by decide) (fun c_1 => ?_) (fun c_1 => ?_)
  ·
    refine X_iload d_Model_copy_201 rfl ?_
    have hz : k = N := by have := nI_done hk (by omega) c_1; omega
    subst hz
    exact X_iret rfl rfl (xle_rf _) d_Model_copy_203
  ·
    have hlt : k < N := nI_more hk (by omega) c_1
    refine X_iload d_Model_copy_154 rfl ?_
    refine X_iload d_Model_copy_156 rfl ?_
    refine X_icmp_ge (tgt := 171) d_Model_copy_158 (by decide) (fun _ => ?_) (fun c_2 => absurd c_2 (fun z => z (Int32.not_lt.mp (fun y => absurd ((nI_ltI (by omega) (by omega)).mp y) (by omega)))))
    refine X_iload d_Model_copy_171 rfl ?_
    refine X_istore d_Model_copy_173 (by decide) [1, 2, 3, 4, 5, 6, 7, 8, 9, 0] (L' := [(0, .ref (xg G 59)), (1, .int (nI q)), (2, .int i), (3, .int (nI p)), (4, .int j), (5, .int (nI N)), (6, .int (nI a)), (7, .int (nI b)), (8, .int (nI k)), (9, .int (nI k))]) rfl ?_
    refine X_aload_n d_Model_copy_175 rfl rfl ?_
    refine X_getR (r := 69) fg_Model_37 (show xYf 59 = some sModel from rfl) rfl d_Model_copy_176 ?_
    refine X_iload d_Model_copy_179 rfl ?_
    refine X_iload d_Model_copy_181 rfl ?_
    refine X_iadd d_Model_copy_183 ?_
    refine X_aload_n d_Model_copy_184 rfl rfl ?_
    refine X_getR (r := 69) fg_Model_37 (show xYf 59 = some sModel from rfl) rfl d_Model_copy_185 ?_
    refine X_iload d_Model_copy_188 rfl ?_
    refine X_iload d_Model_copy_190 rfl ?_
    refine X_iadd d_Model_copy_192 ?_
    refine X_aldI (v := (cpA a b k g) (a + k)) (show xYf 69 = some (sInts 160) from rfl) (ixin (ixA (show nI a = nI a from rfl) (show nI k = nI k from rfl)) (show a + k < 160 by omega) (by decide)) ((ixv (ixA (show nI a = nI a from rfl) (show nI k = nI k from rfl)) (show a + k < 2 ^ 31 by omega) (congrFun (xup_s _ _ _) _))) d_Model_copy_193 ?_
    refine X_astI (show xYf 69 = some (sInts 160) from rfl) (ixin (ixA (show nI b = nI b from rfl) (show nI k = nI k from rfl)) (show b + k < 160 by omega) (by decide)) d_Model_copy_194 ?_
    rw [ixcl (x := (nI b) + (nI k)) (ixA (show nI b = nI b from rfl) (show nI k = nI k from rfl)) (show b + k < 2 ^ 31 by omega)]
    rw [xw_rec]
    refine X_iinc d_Model_copy_195 rfl (v := (nI k) + 1) rfl (by decide) [1, 2, 3, 4, 5, 6, 7, 8, 0, 9] (L' := [(0, .ref (xg G 59)), (1, .int (nI q)), (2, .int i), (3, .int (nI p)), (4, .int j), (5, .int (nI N)), (6, .int (nI a)), (7, .int (nI b)), (8, .int ((nI k) + 1)), (9, .int (nI k))]) rfl ?_
    refine X_goto (tgt := 147) d_Model_copy_198 (by decide) ?_
    rw [cpA_s hab]
    have key := ih hlt
    unfold Q_Model_copy_A at key
    rw [nI_1 k]
    refine X_sub [0, 1, 2, 3, 4, 5, 6, 7, 8] (L' := [(0, .ref (xg G 59)), (1, .int (nI q)), (2, .int i), (3, .int (nI p)), (4, .int j), (5, .int (nI N)), (6, .int (nI a)), (7, .int (nI b)), (8, .int (nI (k + 1)))]) rfl ?_
    exact key
def Q_Model_copy_D (l : Launch) (G : xG) (d nn : Nat) (J : xI) (q p : Nat) (i j : Int32) (N a b : Nat) (g : Nat → Int32) (k : Nat) : Prop := XW l G (xR d 0 0) y_Model_copy b_Model_copy 10 (some .int) xK0 (xZ G nn (xm G xYf (xup J 69 (cpD a b N N g))) (some (.int (nI N))) 0 0) nn (xm G xYf (xup J 69 (cpD a b N k g))) 0 0 147 [(0, .ref (xg G 59)), (1, .int (nI q)), (2, .int i), (3, .int (nI p)), (4, .int j), (5, .int (nI N)), (6, .int (nI a)), (7, .int (nI b)), (8, .int (nI k))] []
theorem w_Model_copy_D (l : Launch) (G : xG) {d : Nat} (nn : Nat) (J : xI) (q p : Nat) (i j : Int32) (N a b : Nat) (ha : a + N ≤ 160) (hb : b + N ≤ 160) (hab : a < b) (g : Nat → Int32) (k : Nat) (hk : k ≤ N) (ih : k < N → Q_Model_copy_D l G d nn J q p i j N a b g (k + 1)) : Q_Model_copy_D l G d nn J q p i j N a b g k := by
  unfold Q_Model_copy_D
  refine X_iload d_Model_copy_147 rfl ?_
  refine X_iload d_Model_copy_149 rfl ?_
  refine X_icmp_ge (tgt := 201) d_Model_copy_151 (by decide) (fun c_1 => ?_) (fun c_1 => ?_)
  ·
    refine X_iload d_Model_copy_201 rfl ?_
    have hz : k = N := by have := nI_done hk (by omega) c_1; omega
    subst hz
    exact X_iret rfl rfl (xle_rf _) d_Model_copy_203
  ·
    have hlt : k < N := nI_more hk (by omega) c_1
    refine X_iload d_Model_copy_154 rfl ?_
    refine X_iload d_Model_copy_156 rfl ?_
    refine X_icmp_ge (tgt := 171) d_Model_copy_158 (by decide) (fun c_2 => absurd c_2 (Int32.not_le.mpr (nI_lt hab (by omega)))) (fun _ => ?_)
    refine X_iload d_Model_copy_161 rfl ?_
    refine X_iconst (v := 1) d_Model_copy_163 rfl ?_
    refine X_isub d_Model_copy_164 ?_
    refine X_iload d_Model_copy_165 rfl ?_
    refine X_isub d_Model_copy_167 ?_
    obtain ⟨z, hzz⟩ : ∃ z, z + k + 1 = N := ⟨N - 1 - k, by omega⟩
    rw [cp_z hzz]
    refine X_goto (tgt := 173) d_Model_copy_168 (by decide) ?_
    refine X_istore d_Model_copy_173 (by decide) [1, 2, 3, 4, 5, 6, 7, 8, 9, 0] (L' := [(0, .ref (xg G 59)), (1, .int (nI q)), (2, .int i), (3, .int (nI p)), (4, .int j), (5, .int (nI N)), (6, .int (nI a)), (7, .int (nI b)), (8, .int (nI k)), (9, .int (nI z))]) rfl ?_
    refine X_aload_n d_Model_copy_175 rfl rfl ?_
    refine X_getR (r := 69) fg_Model_37 (show xYf 59 = some sModel from rfl) rfl d_Model_copy_176 ?_
    refine X_iload d_Model_copy_179 rfl ?_
    refine X_iload d_Model_copy_181 rfl ?_
    refine X_iadd d_Model_copy_183 ?_
    refine X_aload_n d_Model_copy_184 rfl rfl ?_
    refine X_getR (r := 69) fg_Model_37 (show xYf 59 = some sModel from rfl) rfl d_Model_copy_185 ?_
    refine X_iload d_Model_copy_188 rfl ?_
    refine X_iload d_Model_copy_190 rfl ?_
    refine X_iadd d_Model_copy_192 ?_
    refine X_aldI (v := (cpD a b N k g) (a + z)) (show xYf 69 = some (sInts 160) from rfl) (ixin (ixA (show nI a = nI a from rfl) (show nI z = nI z from rfl)) (show a + z < 160 by omega) (by decide)) ((ixv (ixA (show nI a = nI a from rfl) (show nI z = nI z from rfl)) (show a + z < 2 ^ 31 by omega) (congrFun (xup_s _ _ _) _))) d_Model_copy_193 ?_
    refine X_astI (show xYf 69 = some (sInts 160) from rfl) (ixin (ixA (show nI b = nI b from rfl) (show nI z = nI z from rfl)) (show b + z < 160 by omega) (by decide)) d_Model_copy_194 ?_
    rw [ixcl (x := (nI b) + (nI z)) (ixA (show nI b = nI b from rfl) (show nI z = nI z from rfl)) (show b + z < 2 ^ 31 by omega)]
    rw [xw_rec]
    refine X_iinc d_Model_copy_195 rfl (v := (nI k) + 1) rfl (by decide) [1, 2, 3, 4, 5, 6, 7, 8, 0, 9] (L' := [(0, .ref (xg G 59)), (1, .int (nI q)), (2, .int i), (3, .int (nI p)), (4, .int j), (5, .int (nI N)), (6, .int (nI a)), (7, .int (nI b)), (8, .int ((nI k) + 1)), (9, .int (nI z))]) rfl ?_
    refine X_goto (tgt := 147) d_Model_copy_198 (by decide) ?_
    rw [cpD_s hab hzz]
    have key := ih hlt
    unfold Q_Model_copy_D at key
    rw [nI_1 k]
    refine X_sub [0, 1, 2, 3, 4, 5, 6, 7, 8] (L' := [(0, .ref (xg G 59)), (1, .int (nI q)), (2, .int i), (3, .int (nI p)), (4, .int j), (5, .int (nI N)), (6, .int (nI a)), (7, .int (nI b)), (8, .int (nI (k + 1)))]) rfl ?_
    exact key
abbrev okCopyM (I : xI) (s i o j n : Int32) : Prop := xin s 0 3 = true ∧ xin o 0 3 = true ∧ ¬ I 67 s.toNatClampNeg = -1 ∧ ¬ I 67 o.toNatClampNeg = -1 ∧ I 67 s.toNatClampNeg = I 67 o.toNatClampNeg ∧ (0 ≤ n ∧ 0 ≤ i ∧ 0 ≤ j ∧ i ≤ I 68 s.toNatClampNeg ∧ j ≤ I 68 o.toNatClampNeg ∧ n ≤ I 68 s.toNatClampNeg - i ∧ n ≤ I 68 o.toNatClampNeg - j)
def aCopyM (I : xI) (s i o j n : Int32) : Int32 := if xin s 0 3 = true ∧ xin o 0 3 = true then (if I 67 s.toNatClampNeg = -1 ∨ I 67 o.toNatClampNeg = -1 then -11 else if I 67 s.toNatClampNeg = I 67 o.toNatClampNeg then (if (0 ≤ n ∧ 0 ≤ i ∧ 0 ≤ j ∧ i ≤ I 68 s.toNatClampNeg ∧ j ≤ I 68 o.toNatClampNeg ∧ n ≤ I 68 s.toNatClampNeg - i ∧ n ≤ I 68 o.toNatClampNeg - j) then n else -12) else -13) else -2
def mCopyM (I : xI) (s i o j n : Int32) : xI := if okCopyM I s i o j n then xup I 69 (cpA (40 * s.toNatClampNeg + i.toNatClampNeg) (40 * o.toNatClampNeg + j.toNatClampNeg) n.toNatClampNeg (I 69)) else I
theorem cp_nat {i n : Int32} {z : Nat} (hz : z ≤ 40) (hi : 0 ≤ i) (hn : 0 ≤ n) (h1 : i ≤ nI z) (h2 : n ≤ nI z - i) : ∃ x N, i = nI x ∧ n = nI N ∧ x + N ≤ z := by
  obtain ⟨x, hx, rfl⟩ := nI_of (x := i) (Int32.not_lt.mpr hi)
  obtain ⟨N, hN, rfl⟩ := nI_of (x := n) (Int32.not_lt.mpr hn)
  have e1 := (nI_leI hx (by omega)).mp h1
  rw [pk_sub e1] at h2
  exact ⟨x, N, rfl, rfl, by have := (nI_leI hN (by omega)).mp h2; omega⟩
theorem c_Model_copy (l : Launch) (G : xG) {d : Nat} (nn : Nat) (hd : 3 ≤ d) (I : xI) (hc tc ln : Nat) (SS : Nat → xSay) (hK0 : mOK I hc tc ln SS) (sz : Nat → Nat) (hsz : msOK I sz) (s i o j n : Int32) : XM l G d y_Model_copy b_Model_copy 10 (some .int) 0 0 xK0 [.ref (xg G 59), .int s, .int i, .int o, .int j, .int n] nn (xm G xYf I) (some (.int (aCopyM I s i o j n))) nn (xm G xYf (mCopyM I s i o j n)) := by
  obtain ⟨⟨h0, h5⟩, ⟨h8, h6⟩, ⟨h9, hl⟩, hTs, hR⟩ := id hK0
  have hK : mK I ln (SS ln) := ⟨hTs ln hl, h9, by omega⟩
  generalize hSS : SS ln = S at hK ⊢
  refine XM.of (by decide) (Nat.le_of_ble_eq_true rfl) (L := [(0, .ref (xg G 59)), (1, .int s), (2, .int i), (3, .int o), (4, .int j), (5, .int n)]) rfl ?_
  refine X_iload_n d_Model_copy_0 rfl rfl ?_
  refine X_iconst (v := 0) d_Model_copy_1 rfl ?_
  refine X_iconst (v := 3) d_Model_copy_2 rfl ?_
  refine X_callS (v := .int (xb (xin s 0 3))) (rest := []) (c_Model_in l G nn _ (by omega) s 0 3) lk_Model_in ml_Model_66 rfl (Nat.le_of_ble_eq_true rfl) (xRok (d' := d - 1) (by omega) (by decide)) ⟨Nat.le_refl _, Nat.le_refl _⟩ d_Model_copy_3 rfl ?_
  refine X_ifb_eq (tgt := 18) d_Model_copy_6 (by decide) (fun c_1 => ?_) (fun c_1 => ?_)
  ·
    refine X_bipush (v := -2) d_Model_copy_18 rfl ?_
    exact X_iret rfl (congrArg (fun q => some (Value.int q)) (by subst hSS; first | (simp [aCopyM, c_1, xl_1_0, xl_1_1, xl_2_0, xl_2_1, xl_2_2, xl_3_0, xl_3_1, xl_3_2, xl_3_3]; done) | (exfalso; simp_all; done) | (clear hTs hR hK0 hK; simp_all [aCopyM]; done))) (xle_of (congrArg (xm G xYf) (by first | (subst hSS; simp [mCopyM, okCopyM, c_1]; done) | (exfalso; simp_all; done)))) d_Model_copy_20
  ·
    obtain ⟨q, hq0, rfl⟩ := cTop (n := 3) (by decide) c_1
    have hq : q < 4 := by omega
    refine X_iload_n d_Model_copy_9 rfl rfl ?_
    refine X_iconst (v := 0) d_Model_copy_10 rfl ?_
    refine X_iconst (v := 3) d_Model_copy_11 rfl ?_
    refine X_callS (v := .int (xb (xin o 0 3))) (rest := []) (c_Model_in l G nn _ (by omega) o 0 3) lk_Model_in ml_Model_66 rfl (Nat.le_of_ble_eq_true rfl) (xRok (d' := d - 1) (by omega) (by decide)) ⟨Nat.le_refl _, Nat.le_refl _⟩ d_Model_copy_12 rfl ?_
    refine X_ifb_ne (tgt := 21) d_Model_copy_15 (by decide) (fun c_2 => ?_) (fun c_2 => ?_)
    ·
      obtain ⟨p, hp0, rfl⟩ := cTop (n := 3) (by decide) c_2
      have hp : p < 4 := by omega
      refine X_aload_n d_Model_copy_21 rfl rfl ?_
      refine X_getR (r := 67) fg_Model_31 (show xYf 59 = some sModel from rfl) rfl d_Model_copy_22 ?_
      refine X_iload_n d_Model_copy_25 rfl rfl ?_
      refine X_aldI (v := I 67 q) (show xYf 67 = some (sInts 4) from rfl) (ixin (show nI q = nI q from rfl) (show q < 4 by omega) (by decide)) ((ixv (show nI q = nI q from rfl) (show q < 2 ^ 31 by omega) (rfl))) d_Model_copy_26 ?_
      refine X_iconst (v := -1) d_Model_copy_27 rfl ?_
      refine X_icmp_eq (tgt := 41) d_Model_copy_28 (by decide) (fun c_3 => ?_) (fun c_3 => ?_)
      ·
        refine X_bipush (v := -11) d_Model_copy_41 rfl ?_
        exact X_iret rfl (congrArg (fun q => some (Value.int q)) (by subst hSS; first | (simp [aCopyM, c_1, nI_cl (show q < 2 ^ 31 by omega), c_2, nI_cl (show p < 2 ^ 31 by omega), c_3, xl_1_0, xl_1_1, xl_2_0, xl_2_1, xl_2_2, xl_3_0, xl_3_1, xl_3_2, xl_3_3]; done) | (exfalso; simp_all; done) | (clear hTs hR hK0 hK; simp_all [aCopyM, nI_cl (show q < 2 ^ 31 by omega), nI_cl (show p < 2 ^ 31 by omega)]; done))) (xle_of (congrArg (xm G xYf) (by first | (subst hSS; simp [mCopyM, okCopyM, c_1, nI_cl (show q < 2 ^ 31 by omega), c_2, nI_cl (show p < 2 ^ 31 by omega), c_3]; done) | (exfalso; simp_all; done)))) d_Model_copy_43
      ·
        refine X_aload_n d_Model_copy_31 rfl rfl ?_
        refine X_getR (r := 67) fg_Model_31 (show xYf 59 = some sModel from rfl) rfl d_Model_copy_32 ?_
        refine X_iload_n d_Model_copy_35 rfl rfl ?_
        refine X_aldI (v := I 67 p) (show xYf 67 = some (sInts 4) from rfl) (ixin (show nI p = nI p from rfl) (show p < 4 by omega) (by decide)) ((ixv (show nI p = nI p from rfl) (show p < 2 ^ 31 by omega) (rfl))) d_Model_copy_36 ?_
        refine X_iconst (v := -1) d_Model_copy_37 rfl ?_
        refine X_icmp_ne (tgt := 44) d_Model_copy_38 (by decide) (fun c_4 => ?_) (fun c_4 => ?_)
        ·
          refine X_aload_n d_Model_copy_44 rfl rfl ?_
          refine X_getR (r := 67) fg_Model_31 (show xYf 59 = some sModel from rfl) rfl d_Model_copy_45 ?_
          refine X_iload_n d_Model_copy_48 rfl rfl ?_
          refine X_aldI (v := I 67 q) (show xYf 67 = some (sInts 4) from rfl) (ixin (show nI q = nI q from rfl) (show q < 4 by omega) (by decide)) ((ixv (show nI q = nI q from rfl) (show q < 2 ^ 31 by omega) (rfl))) d_Model_copy_49 ?_
          refine X_aload_n d_Model_copy_50 rfl rfl ?_
          refine X_getR (r := 67) fg_Model_31 (show xYf 59 = some sModel from rfl) rfl d_Model_copy_51 ?_
          refine X_iload_n d_Model_copy_54 rfl rfl ?_
          refine X_aldI (v := I 67 p) (show xYf 67 = some (sInts 4) from rfl) (ixin (show nI p = nI p from rfl) (show p < 4 by omega) (by decide)) ((ixv (show nI p = nI p from rfl) (show p < 2 ^ 31 by omega) (rfl))) d_Model_copy_55 ?_
          refine X_icmp_eq (tgt := 62) d_Model_copy_56 (by decide) (fun c_5 => ?_) (fun c_5 => ?_)
          ·
            refine X_iload d_Model_copy_62 rfl ?_
            refine X_if_lt (tgt := 124) d_Model_copy_64 (by decide) (fun c_6 => ?_) (fun c_6 => ?_)
            ·
              refine X_bipush (v := -12) d_Model_copy_124 rfl ?_
              exact X_iret rfl (congrArg (fun q => some (Value.int q)) (by subst hSS; first | (simp [aCopyM, c_1, nI_cl (show q < 2 ^ 31 by omega), c_2, nI_cl (show p < 2 ^ 31 by omega), c_3, c_4, c_5, c_6, Int32.not_le.mpr c_6, xl_1_0, xl_1_1, xl_2_0, xl_2_1, xl_2_2, xl_3_0, xl_3_1, xl_3_2, xl_3_3]; done) | (exfalso; simp_all; done) | (clear hTs hR hK0 hK; simp_all [aCopyM, nI_cl (show q < 2 ^ 31 by omega), nI_cl (show p < 2 ^ 31 by omega)]; done))) (xle_of (congrArg (xm G xYf) (by first | (subst hSS; simp [mCopyM, okCopyM, c_1, nI_cl (show q < 2 ^ 31 by omega), c_2, nI_cl (show p < 2 ^ 31 by omega), c_3, c_4, c_5, c_6, Int32.not_le.mpr c_6]; done) | (exfalso; simp_all; done)))) d_Model_copy_126
            ·
              refine X_iload_n d_Model_copy_67 rfl rfl ?_
              refine X_if_lt (tgt := 124) d_Model_copy_68 (by decide) (fun c_7 => ?_) (fun c_7 => ?_)
              ·
                refine X_bipush (v := -12) d_Model_copy_124 rfl ?_
                exact X_iret rfl (congrArg (fun q => some (Value.int q)) (by subst hSS; first | (simp [aCopyM, c_1, nI_cl (show q < 2 ^ 31 by omega), c_2, nI_cl (show p < 2 ^ 31 by omega), c_3, c_4, c_5, c_6, Int32.not_lt.mp c_6, c_7, Int32.not_le.mpr c_7, xl_1_0, xl_1_1, xl_2_0, xl_2_1, xl_2_2, xl_3_0, xl_3_1, xl_3_2, xl_3_3]; done) | (exfalso; simp_all; done) | (clear hTs hR hK0 hK; simp_all [aCopyM, nI_cl (show q < 2 ^ 31 by omega), nI_cl (show p < 2 ^ 31 by omega)]; done))) (xle_of (congrArg (xm G xYf) (by first | (subst hSS; simp [mCopyM, okCopyM, c_1, nI_cl (show q < 2 ^ 31 by omega), c_2, nI_cl (show p < 2 ^ 31 by omega), c_3, c_4, c_5, c_6, Int32.not_lt.mp c_6, c_7, Int32.not_le.mpr c_7]; done) | (exfalso; simp_all; done)))) d_Model_copy_126
              ·
                refine X_iload d_Model_copy_71 rfl ?_
                refine X_if_lt (tgt := 124) d_Model_copy_73 (by decide) (fun c_8 => ?_) (fun c_8 => ?_)
                ·
                  refine X_bipush (v := -12) d_Model_copy_124 rfl ?_
                  exact X_iret rfl (congrArg (fun q => some (Value.int q)) (by subst hSS; first | (simp [aCopyM, c_1, nI_cl (show q < 2 ^ 31 by omega), c_2, nI_cl (show p < 2 ^ 31 by omega), c_3, c_4, c_5, c_6, Int32.not_lt.mp c_6, c_7, Int32.not_lt.mp c_7, c_8, Int32.not_le.mpr c_8, xl_1_0, xl_1_1, xl_2_0, xl_2_1, xl_2_2, xl_3_0, xl_3_1, xl_3_2, xl_3_3]; done) | (exfalso; simp_all; done) | (clear hTs hR hK0 hK; simp_all [aCopyM, nI_cl (show q < 2 ^ 31 by omega), nI_cl (show p < 2 ^ 31 by omega)]; done))) (xle_of (congrArg (xm G xYf) (by first | (subst hSS; simp [mCopyM, okCopyM, c_1, nI_cl (show q < 2 ^ 31 by omega), c_2, nI_cl (show p < 2 ^ 31 by omega), c_3, c_4, c_5, c_6, Int32.not_lt.mp c_6, c_7, Int32.not_lt.mp c_7, c_8, Int32.not_le.mpr c_8]; done) | (exfalso; simp_all; done)))) d_Model_copy_126
                ·
                  refine X_iload_n d_Model_copy_76 rfl rfl ?_
                  refine X_aload_n d_Model_copy_77 rfl rfl ?_
                  refine X_getR (r := 68) fg_Model_34 (show xYf 59 = some sModel from rfl) rfl d_Model_copy_78 ?_
                  refine X_iload_n d_Model_copy_81 rfl rfl ?_
                  refine X_aldI (v := I 68 q) (show xYf 68 = some (sInts 4) from rfl) (ixin (show nI q = nI q from rfl) (show q < 4 by omega) (by decide)) ((ixv (show nI q = nI q from rfl) (show q < 2 ^ 31 by omega) (rfl))) d_Model_copy_82 ?_
                  refine X_icmp_gt (tgt := 124) d_Model_copy_83 (by decide) (fun c_9 => ?_) (fun c_9 => ?_)
                  ·
                    refine X_bipush (v := -12) d_Model_copy_124 rfl ?_
                    exact X_iret rfl (congrArg (fun q => some (Value.int q)) (by subst hSS; first | (simp [aCopyM, c_1, nI_cl (show q < 2 ^ 31 by omega), c_2, nI_cl (show p < 2 ^ 31 by omega), c_3, c_4, c_5, c_6, Int32.not_lt.mp c_6, c_7, Int32.not_lt.mp c_7, c_8, Int32.not_lt.mp c_8, c_9, Int32.not_le.mpr c_9, xl_1_0, xl_1_1, xl_2_0, xl_2_1, xl_2_2, xl_3_0, xl_3_1, xl_3_2, xl_3_3]; done) | (exfalso; simp_all; done) | (clear hTs hR hK0 hK; simp_all [aCopyM, nI_cl (show q < 2 ^ 31 by omega), nI_cl (show p < 2 ^ 31 by omega)]; done))) (xle_of (congrArg (xm G xYf) (by first | (subst hSS; simp [mCopyM, okCopyM, c_1, nI_cl (show q < 2 ^ 31 by omega), c_2, nI_cl (show p < 2 ^ 31 by omega), c_3, c_4, c_5, c_6, Int32.not_lt.mp c_6, c_7, Int32.not_lt.mp c_7, c_8, Int32.not_lt.mp c_8, c_9, Int32.not_le.mpr c_9]; done) | (exfalso; simp_all; done)))) d_Model_copy_126
                  ·
                    refine X_iload d_Model_copy_86 rfl ?_
                    refine X_aload_n d_Model_copy_88 rfl rfl ?_
                    refine X_getR (r := 68) fg_Model_34 (show xYf 59 = some sModel from rfl) rfl d_Model_copy_89 ?_
                    refine X_iload_n d_Model_copy_92 rfl rfl ?_
                    refine X_aldI (v := I 68 p) (show xYf 68 = some (sInts 4) from rfl) (ixin (show nI p = nI p from rfl) (show p < 4 by omega) (by decide)) ((ixv (show nI p = nI p from rfl) (show p < 2 ^ 31 by omega) (rfl))) d_Model_copy_93 ?_
                    refine X_icmp_gt (tgt := 124) d_Model_copy_94 (by decide) (fun c_10 => ?_) (fun c_10 => ?_)
                    ·
                      refine X_bipush (v := -12) d_Model_copy_124 rfl ?_
                      exact X_iret rfl (congrArg (fun q => some (Value.int q)) (by subst hSS; first | (simp [aCopyM, c_1, nI_cl (show q < 2 ^ 31 by omega), c_2, nI_cl (show p < 2 ^ 31 by omega), c_3, c_4, c_5, c_6, Int32.not_lt.mp c_6, c_7, Int32.not_lt.mp c_7, c_8, Int32.not_lt.mp c_8, c_9, Int32.not_lt.mp c_9, c_10, Int32.not_le.mpr c_10, xl_1_0, xl_1_1, xl_2_0, xl_2_1, xl_2_2, xl_3_0, xl_3_1, xl_3_2, xl_3_3]; done) | (exfalso; simp_all; done) | (clear hTs hR hK0 hK; simp_all [aCopyM, nI_cl (show q < 2 ^ 31 by omega), nI_cl (show p < 2 ^ 31 by omega)]; done))) (xle_of (congrArg (xm G xYf) (by first | (subst hSS; simp [mCopyM, okCopyM, c_1, nI_cl (show q < 2 ^ 31 by omega), c_2, nI_cl (show p < 2 ^ 31 by omega), c_3, c_4, c_5, c_6, Int32.not_lt.mp c_6, c_7, Int32.not_lt.mp c_7, c_8, Int32.not_lt.mp c_8, c_9, Int32.not_lt.mp c_9, c_10, Int32.not_le.mpr c_10]; done) | (exfalso; simp_all; done)))) d_Model_copy_126
                    ·
                      refine X_iload d_Model_copy_97 rfl ?_
                      refine X_aload_n d_Model_copy_99 rfl rfl ?_
                      refine X_getR (r := 68) fg_Model_34 (show xYf 59 = some sModel from rfl) rfl d_Model_copy_100 ?_
                      refine X_iload_n d_Model_copy_103 rfl rfl ?_
                      refine X_aldI (v := I 68 q) (show xYf 68 = some (sInts 4) from rfl) (ixin (show nI q = nI q from rfl) (show q < 4 by omega) (by decide)) ((ixv (show nI q = nI q from rfl) (show q < 2 ^ 31 by omega) (rfl))) d_Model_copy_104 ?_
                      refine X_iload_n d_Model_copy_105 rfl rfl ?_
                      refine X_isub d_Model_copy_106 ?_
                      refine X_icmp_gt (tgt := 124) d_Model_copy_107 (by decide) (fun c_11 => ?_) (fun c_11 => ?_)
                      ·
                        refine X_bipush (v := -12) d_Model_copy_124 rfl ?_
                        exact X_iret rfl (congrArg (fun q => some (Value.int q)) (by subst hSS; first | (simp [aCopyM, c_1, nI_cl (show q < 2 ^ 31 by omega), c_2, nI_cl (show p < 2 ^ 31 by omega), c_3, c_4, c_5, c_6, Int32.not_lt.mp c_6, c_7, Int32.not_lt.mp c_7, c_8, Int32.not_lt.mp c_8, c_9, Int32.not_lt.mp c_9, c_10, Int32.not_lt.mp c_10, c_11, Int32.not_le.mpr c_11, xl_1_0, xl_1_1, xl_2_0, xl_2_1, xl_2_2, xl_3_0, xl_3_1, xl_3_2, xl_3_3]; done) | (exfalso; simp_all; done) | (clear hTs hR hK0 hK; simp_all [aCopyM, nI_cl (show q < 2 ^ 31 by omega), nI_cl (show p < 2 ^ 31 by omega)]; done))) (xle_of (congrArg (xm G xYf) (by first | (subst hSS; simp [mCopyM, okCopyM, c_1, nI_cl (show q < 2 ^ 31 by omega), c_2, nI_cl (show p < 2 ^ 31 by omega), c_3, c_4, c_5, c_6, Int32.not_lt.mp c_6, c_7, Int32.not_lt.mp c_7, c_8, Int32.not_lt.mp c_8, c_9, Int32.not_lt.mp c_9, c_10, Int32.not_lt.mp c_10, c_11, Int32.not_le.mpr c_11]; done) | (exfalso; simp_all; done)))) d_Model_copy_126
                      ·
                        refine X_iload d_Model_copy_110 rfl ?_
                        refine X_aload_n d_Model_copy_112 rfl rfl ?_
                        refine X_getR (r := 68) fg_Model_34 (show xYf 59 = some sModel from rfl) rfl d_Model_copy_113 ?_
                        refine X_iload_n d_Model_copy_116 rfl rfl ?_
                        refine X_aldI (v := I 68 p) (show xYf 68 = some (sInts 4) from rfl) (ixin (show nI p = nI p from rfl) (show p < 4 by omega) (by decide)) ((ixv (show nI p = nI p from rfl) (show p < 2 ^ 31 by omega) (rfl))) d_Model_copy_117 ?_
                        refine X_iload d_Model_copy_118 rfl ?_
                        refine X_isub d_Model_copy_120 ?_
                        refine X_icmp_le (tgt := 127) d_Model_copy_121 (by decide) (fun c_12 => ?_) (fun c_12 => ?_)
                        ·
                          have hzq := hsz q hq
                          have hzp := hsz p hp
                          have hok : 0 ≤ n ∧ 0 ≤ i ∧ 0 ≤ j ∧ i ≤ I 68 q ∧ j ≤ I 68 p ∧ n ≤ I 68 q - i ∧ n ≤ I 68 p - j := ⟨Int32.not_lt.mp c_6, Int32.not_lt.mp c_7, Int32.not_lt.mp c_8, Int32.not_lt.mp c_9, Int32.not_lt.mp c_10, Int32.not_lt.mp c_11, c_12⟩
                          have hok2 := hok
                          rw [hzq.1, hzp.1] at hok2
                          obtain ⟨x, N, hxe, hNe, hxN⟩ := cp_nat hzq.2 hok2.2.1 hok2.1 hok2.2.2.2.1 hok2.2.2.2.2.2.1
                          obtain ⟨y, M, hye, hMe, hyM⟩ := cp_nat hzp.2 hok2.2.2.1 hok2.1 hok2.2.2.2.2.1 hok2.2.2.2.2.2.2
                          have hMN : M = N := by rw [hNe] at hMe; exact ((nI_eq (by omega) (by omega)).mp hMe).symm
                          subst hMN
                          refine X_bipush (v := 40) d_Model_copy_127 rfl ?_
                          refine X_iload_n d_Model_copy_129 rfl rfl ?_
                          refine X_imul d_Model_copy_130 ?_
                          refine X_iload_n d_Model_copy_131 rfl rfl ?_
                          refine X_iadd d_Model_copy_132 ?_
                          rw [show 40 * nI q + i = nI (40 * q + x) from by rw [hxe, cp_lin]]
                          refine X_istore d_Model_copy_133 (by decide) [1, 2, 3, 4, 5, 6, 0] (L' := [(0, .ref (xg G 59)), (1, .int (nI q)), (2, .int i), (3, .int (nI p)), (4, .int j), (5, .int n), (6, .int (nI (40 * q + x)))]) rfl ?_
                          refine X_bipush (v := 40) d_Model_copy_135 rfl ?_
                          refine X_iload_n d_Model_copy_137 rfl rfl ?_
                          refine X_imul d_Model_copy_138 ?_
                          refine X_iload d_Model_copy_139 rfl ?_
                          refine X_iadd d_Model_copy_141 ?_
                          rw [show 40 * nI p + j = nI (40 * p + y) from by rw [hye, cp_lin]]
                          refine X_istore d_Model_copy_142 (by decide) [1, 2, 3, 4, 5, 6, 7, 0] (L' := [(0, .ref (xg G 59)), (1, .int (nI q)), (2, .int i), (3, .int (nI p)), (4, .int j), (5, .int n), (6, .int (nI (40 * q + x))), (7, .int (nI (40 * p + y)))]) rfl ?_
                          refine X_iconst (v := 0) d_Model_copy_144 rfl ?_
                          refine X_istore d_Model_copy_145 (by decide) [1, 2, 3, 4, 5, 6, 7, 8, 0] (L' := [(0, .ref (xg G 59)), (1, .int (nI q)), (2, .int i), (3, .int (nI p)), (4, .int j), (5, .int n), (6, .int (nI (40 * q + x))), (7, .int (nI (40 * p + y))), (8, .int 0)]) rfl ?_
                          have e1 : okCopyM I (nI q) i (nI p) j n := by unfold okCopyM; rw [nI_cl (show q < 2 ^ 31 by omega), nI_cl (show p < 2 ^ 31 by omega)]; exact ⟨c_1, c_2, c_3, c_4, c_5, hok⟩
                          have e2 : aCopyM I (nI q) i (nI p) j n = n := by unfold aCopyM; rw [nI_cl (show q < 2 ^ 31 by omega), nI_cl (show p < 2 ^ 31 by omega), if_pos ⟨c_1, c_2⟩, if_neg (fun z => z.elim c_3 c_4), if_pos c_5, if_pos hok]
                          rw [e2, mCopyM, if_pos e1, nI_cl (show q < 2 ^ 31 by omega), nI_cl (show p < 2 ^ 31 by omega), show i.toNatClampNeg = x by rw [hxe, nI_cl (by omega)], show j.toNatClampNeg = y by rw [hye, nI_cl (by omega)], show n.toNatClampNeg = M by rw [hNe, nI_cl (by omega)]]
                          rcases Nat.lt_or_ge (40 * q + x) (40 * p + y) with hab | hab
                          ·
                            have hx := xloop (T := M) (fun k hk ih => w_Model_copy_D (d := d) l G nn I q p i j M (40 * q + x) (40 * p + y) (by omega) (by omega) hab (I 69) k hk ih) 0 (Nat.zero_le _)
                            unfold Q_Model_copy_D at hx
                            rw [cpD_N, cpD_0, xup_self] at hx
                            rw [← hNe] at hx
                            exact hx
                          ·
                            have hx := xloop (T := M) (fun k hk ih => w_Model_copy_A (d := d) l G nn I q p i j M (40 * q + x) (40 * p + y) (by omega) (by omega) hab (I 69) k hk ih) 0 (Nat.zero_le _)
                            unfold Q_Model_copy_A at hx
                            rw [cpA_0, xup_self] at hx
                            rw [← hNe] at hx
                            exact hx
                        ·
                          refine X_bipush (v := -12) d_Model_copy_124 rfl ?_
                          exact X_iret rfl (congrArg (fun q => some (Value.int q)) (by subst hSS; first | (simp [aCopyM, c_1, nI_cl (show q < 2 ^ 31 by omega), c_2, nI_cl (show p < 2 ^ 31 by omega), c_3, c_4, c_5, c_6, Int32.not_lt.mp c_6, c_7, Int32.not_lt.mp c_7, c_8, Int32.not_lt.mp c_8, c_9, Int32.not_lt.mp c_9, c_10, Int32.not_lt.mp c_10, c_11, Int32.not_lt.mp c_11, c_12, Int32.not_le.mp c_12, xl_1_0, xl_1_1, xl_2_0, xl_2_1, xl_2_2, xl_3_0, xl_3_1, xl_3_2, xl_3_3]; done) | (exfalso; simp_all; done) | (clear hTs hR hK0 hK; simp_all [aCopyM, nI_cl (show q < 2 ^ 31 by omega), nI_cl (show p < 2 ^ 31 by omega)]; done))) (xle_of (congrArg (xm G xYf) (by first | (subst hSS; simp [mCopyM, okCopyM, c_1, nI_cl (show q < 2 ^ 31 by omega), c_2, nI_cl (show p < 2 ^ 31 by omega), c_3, c_4, c_5, c_6, Int32.not_lt.mp c_6, c_7, Int32.not_lt.mp c_7, c_8, Int32.not_lt.mp c_8, c_9, Int32.not_lt.mp c_9, c_10, Int32.not_lt.mp c_10, c_11, Int32.not_lt.mp c_11, c_12, Int32.not_le.mp c_12]; done) | (exfalso; simp_all; done)))) d_Model_copy_126
          ·
            refine X_bipush (v := -13) d_Model_copy_59 rfl ?_
            exact X_iret rfl (congrArg (fun q => some (Value.int q)) (by subst hSS; first | (simp [aCopyM, c_1, nI_cl (show q < 2 ^ 31 by omega), c_2, nI_cl (show p < 2 ^ 31 by omega), c_3, c_4, c_5, xl_1_0, xl_1_1, xl_2_0, xl_2_1, xl_2_2, xl_3_0, xl_3_1, xl_3_2, xl_3_3]; done) | (exfalso; simp_all; done) | (clear hTs hR hK0 hK; simp_all [aCopyM, nI_cl (show q < 2 ^ 31 by omega), nI_cl (show p < 2 ^ 31 by omega)]; done))) (xle_of (congrArg (xm G xYf) (by first | (subst hSS; simp [mCopyM, okCopyM, c_1, nI_cl (show q < 2 ^ 31 by omega), c_2, nI_cl (show p < 2 ^ 31 by omega), c_3, c_4, c_5]; done) | (exfalso; simp_all; done)))) d_Model_copy_61
        ·
          refine X_bipush (v := -11) d_Model_copy_41 rfl ?_
          exact X_iret rfl (congrArg (fun q => some (Value.int q)) (by subst hSS; first | (simp [aCopyM, c_1, nI_cl (show q < 2 ^ 31 by omega), c_2, nI_cl (show p < 2 ^ 31 by omega), c_3, c_4, xl_1_0, xl_1_1, xl_2_0, xl_2_1, xl_2_2, xl_3_0, xl_3_1, xl_3_2, xl_3_3]; done) | (exfalso; simp_all; done) | (clear hTs hR hK0 hK; simp_all [aCopyM, nI_cl (show q < 2 ^ 31 by omega), nI_cl (show p < 2 ^ 31 by omega)]; done))) (xle_of (congrArg (xm G xYf) (by first | (subst hSS; simp [mCopyM, okCopyM, c_1, nI_cl (show q < 2 ^ 31 by omega), c_2, nI_cl (show p < 2 ^ 31 by omega), c_3, c_4]; done) | (exfalso; simp_all; done)))) d_Model_copy_43
    ·
      refine X_bipush (v := -2) d_Model_copy_18 rfl ?_
      exact X_iret rfl (congrArg (fun q => some (Value.int q)) (by subst hSS; first | (simp [aCopyM, c_1, nI_cl (show q < 2 ^ 31 by omega), c_2, xl_1_0, xl_1_1, xl_2_0, xl_2_1, xl_2_2, xl_3_0, xl_3_1, xl_3_2, xl_3_3]; done) | (exfalso; simp_all; done) | (clear hTs hR hK0 hK; simp_all [aCopyM, nI_cl (show q < 2 ^ 31 by omega)]; done))) (xle_of (congrArg (xm G xYf) (by first | (subst hSS; simp [mCopyM, okCopyM, c_1, nI_cl (show q < 2 ^ 31 by omega), c_2]; done) | (exfalso; simp_all; done)))) d_Model_copy_20
