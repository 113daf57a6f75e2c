theorem nI_mul (a b : Nat) : nI a * nI b = nI (a * b) := (Int32.ofNat_mul a b).symm
theorem ixA {x y : Int32} {a b : Nat} (ha : x = nI a) (hb : y = nI b) : x + y = nI (a + b) := by rw [ha, hb, nI_add]
theorem ixM {x y : Int32} {a b : Nat} (ha : x = nI a) (hb : y = nI b) : x * y = nI (a * b) := by rw [ha, hb, nI_mul]
theorem ixS {x : Int32} {a : Nat} (ha : x = nI (a + 1)) : x - 1 = nI a := by rw [ha, nI_pred]
theorem ixD {x : Int32} {a : Nat} (ha : x = nI (a + 1)) : x + (-1) = nI a := by rw [ha, pk_m1]
theorem ixin {x : Int32} {k N : Nat} (h : x = nI k) (hk : k < N) (hN : N < 2 ^ 31) : vp_in x N := by rw [h]; exact vp_in_nI hk hN
theorem ixcl {x : Int32} {k : Nat} (h : x = nI k) (hk : k < 2 ^ 31) : x.toNatClampNeg = k := by rw [h, nI_cl hk]
theorem ixv {x : Int32} {k : Nat} {f : Nat → Int32} {v : Int32} (h : x = nI k) (hk : k < 2 ^ 31) (hv : f k = v) : f x.toNatClampNeg = v := by rw [ixcl h hk]; exact hv
def mTx (I : xI) (t : Nat) (S : xSay) : Prop := ∃ P : Nat → List Int32, S = tSay P ∧ (tAll P).length ≤ 160 ∧ I 65 (4 * t) = nI 0 ∧ I 65 (4 * t + 1) = nI (P 0).length ∧ I 65 (4 * t + 2) = nI ((P 0).length + (P 1).length) ∧ I 65 (4 * t + 3) = nI ((P 0).length + (P 1).length + (P 2).length) ∧ (∀ j, j < (tAll P).length → I 64 (200 * t + j) = (tAll P).getD j 0) ∧ tDep (P 0) 0 = true ∧ tDep (P 1) 0 = true ∧ tDep (P 2) 0 = true
theorem mTx_kept {I J : xI} {t : Nat} {S : xSay} (h : mTx I t S) (h4 : J 64 = I 64) (h5 : J 65 = I 65) : mTx J t S := by
  obtain ⟨P, g⟩ := h
  refine ⟨P, ?_⟩
  rw [h4, h5]
  exact g
theorem mTx_part {I : xI} {t : Nat} {S : xSay} (hT : mTx I t S) {p : Nat} (hp : p < 3) : ∃ (P : List Int32) (a b : Nat), (∀ speed eyes f, S (nI p) speed eyes f = xbd (tEval P f speed eyes) 0 (if nI p = 1 then 100 else 999)) ∧ tDep P 0 = true ∧ a + P.length = b ∧ b ≤ 160 ∧ I 65 (4 * t + p) = nI a ∧ I 65 (4 * t + p + 1) = nI b ∧ ∀ j, j < P.length → I 64 (200 * t + (a + j)) = P.getD j 0 := by
  obtain ⟨P, hS, hlen, e0, e1, e2, e3, hcode, d0, d1, d2⟩ := hT
  have hl : (tAll P).length = (P 0).length + ((P 1).length + (P 2).length) := by simp [tAll]
  subst hS
  match p, hp with
  | 0, _ =>
    refine ⟨P 0, 0, (P 0).length, fun _ _ _ => rfl, d0, by omega, by omega, e0, e1, fun j hj => ?_⟩
    rw [hcode (0 + j) (by omega), tAll, gD_l _ _ (by omega), Nat.zero_add]
  | 1, _ =>
    refine ⟨P 1, (P 0).length, (P 0).length + (P 1).length, fun _ _ _ => rfl, d1, rfl, by omega, e1, e2, fun j hj => ?_⟩
    rw [hcode _ (by omega), tAll, gD_r _ _ (by omega), gD_l _ _ (by omega), Nat.add_sub_cancel_left]
  | 2, _ =>
    refine ⟨P 2, (P 0).length + (P 1).length, (P 0).length + (P 1).length + (P 2).length, fun _ _ _ => rfl, d2, rfl, by omega, e2, e3, fun j hj => ?_⟩
    rw [hcode _ (by omega), tAll, gD_r _ _ (by omega), gD_r _ _ (by omega)]
    congr 2
    omega
def Q_Model_says (l : Launch) (G : xG) (d nn : Nat) (J : xI) (p : Nat) (r : Int32) (Y' : xY) (I' : xI) (g : Nat → Int32) (n i : Nat) : Prop := XW l G (xR d 0 0) y_Model_says b_Model_says 5 (some .int) xK0 (xZ G nn (xm G Y' I') (some (.int r)) 0 0) nn (xm G (xup (xup xYf 73 (some (sInts 200))) 74 (some (sInts 6))) (xup J 73 g)) 0 0 16 [(0, .ref (xg G 59)), (1, .int (nI p)), (2, .int (nI n)), (3, .int (nI i))] []
theorem w_Model_says_num (l : Launch) (G : xG) {d : Nat} (nn : Nat) (hd : 2 ≤ d) (J : xI) (p ln b : Nat) (hp : p < 3) (hb : b ≤ 160) (hl : ln < 6) (hrule : J 59 9 = nI ln) (hend : J 65 (4 * ln + p + 1) = nI b) (r : Int32) (Y' : xY) (I' : xI) (g : Nat → Int32) (i : Nat) (hi : i < b) (tc : Int32) (hc : J 64 (200 * ln + i) = tc) (n : Nat) (hn : n < 40) (hx : 100000 ≤ tc) (ih : Q_Model_says l G d nn J p r Y' I' (xup g n (tc - 100000)) (n + 1) (i + 1)) : Q_Model_says l G d nn J p r Y' I' g (n) i := by
  unfold Q_Model_says
  refine X_iload_n d_Model_says_16 rfl rfl ?_
  refine X_aload_n d_Model_says_17 rfl rfl ?_
  refine X_getR (r := 65) fg_Model_25 (show (xup (xup xYf 73 (some (sInts 200))) 74 (some (sInts 6))) 59 = some sModel from rfl) rfl d_Model_says_18 ?_
  refine X_iconst (v := 4) d_Model_says_21 rfl ?_
  refine X_aload_n d_Model_says_22 rfl rfl ?_
  refine X_getI (v := nI ln) fg_Model_73 (show (xup (xup xYf 73 (some (sInts 200))) 74 (some (sInts 6))) 59 = some sModel from rfl) rfl ((congrFun (xup_n _ _ (by decide)) _).trans (hrule)) d_Model_says_23 ?_
  refine X_imul d_Model_says_26 ?_
  refine X_iload_n d_Model_says_27 rfl rfl ?_
  refine X_iadd d_Model_says_28 ?_
  refine X_iconst (v := 1) d_Model_says_29 rfl ?_
  refine X_iadd d_Model_says_30 ?_
  refine X_aldI (v := nI b) (show (xup (xup xYf 73 (some (sInts 200))) 74 (some (sInts 6))) 65 = some (sInts 24) from rfl) (ixin (ixA (ixA (ixM (show (4 : Int32) = nI 4 from rfl) (show nI ln = nI ln from rfl)) (show nI p = nI p from rfl)) (show (1 : Int32) = nI 1 from rfl)) (show 4 * ln + p + 1 < 24 by omega) (by decide)) ((ixv (ixA (ixA (ixM (show (4 : Int32) = nI 4 from rfl) (show nI ln = nI ln from rfl)) (show nI p = nI p from rfl)) (show (1 : Int32) = nI 1 from rfl)) (show 4 * ln + p + 1 < 2 ^ 31 by omega) ((congrFun (xup_n _ _ (by decide)) _).trans (hend)))) d_Model_says_31 ?_
  refine X_icmp_ge (tgt := 197) d_Model_says_32 (by decide) (fun c_1 => absurd c_1 (nI_ge hi (by omega))) (fun _ => ?_)
  refine X_aload_n d_Model_says_35 rfl rfl ?_
  refine X_getR (r := 64) fg_Model_22 (show (xup (xup xYf 73 (some (sInts 200))) 74 (some (sInts 6))) 59 = some sModel from rfl) rfl d_Model_says_36 ?_
  refine X_sipush (v := 200) d_Model_says_39 rfl ?_
  refine X_aload_n d_Model_says_42 rfl rfl ?_
  refine X_getI (v := nI ln) fg_Model_73 (show (xup (xup xYf 73 (some (sInts 200))) 74 (some (sInts 6))) 59 = some sModel from rfl) rfl ((congrFun (xup_n _ _ (by decide)) _).trans (hrule)) d_Model_says_43 ?_
  refine X_imul d_Model_says_46 ?_
  refine X_iload_n d_Model_says_47 rfl rfl ?_
  refine X_iadd d_Model_says_48 ?_
  refine X_aldI (v := tc) (show (xup (xup xYf 73 (some (sInts 200))) 74 (some (sInts 6))) 64 = some (sInts 1200) from rfl) (ixin (ixA (ixM (show (200 : Int32) = nI 200 from rfl) (show nI ln = nI ln from rfl)) (show nI i = nI i from rfl)) (show 200 * ln + i < 1200 by omega) (by decide)) ((ixv (ixA (ixM (show (200 : Int32) = nI 200 from rfl) (show nI ln = nI ln from rfl)) (show nI i = nI i from rfl)) (show 200 * ln + i < 2 ^ 31 by omega) ((congrFun (xup_n _ _ (by decide)) _).trans (hc)))) d_Model_says_49 ?_
  refine X_istore d_Model_says_50 (by decide) [1, 2, 3, 4, 0] (L' := [(0, .ref (xg G 59)), (1, .int (nI p)), (2, .int (nI n)), (3, .int (nI i)), (4, .int tc)]) rfl ?_
  refine X_iload d_Model_says_52 rfl ?_
  refine X_ldc cs_Model_122 d_Model_says_54 ?_
  refine X_icmp_ge (tgt := 66) d_Model_says_56 (by decide) (fun _ => ?_) (fun c_2 => absurd c_2 (not_not_intro hx))
  refine X_aload_n d_Model_says_66 rfl rfl ?_
  refine X_getR (r := 73) fg_Model_49 (show (xup (xup xYf 73 (some (sInts 200))) 74 (some (sInts 6))) 59 = some sModel from rfl) rfl d_Model_says_67 ?_
  refine X_iload_n d_Model_says_70 rfl rfl ?_
  refine X_iload d_Model_says_71 rfl ?_
  refine X_bipush (v := 11) d_Model_says_73 rfl ?_
  refine X_icmp_ge (tgt := 88) d_Model_says_75 (by decide) (fun _ => ?_) (fun c_3 => absurd c_3 (show ¬ ¬ 11 ≤ tc from by grind))
  refine X_iload d_Model_says_88 rfl ?_
  refine X_ldc cs_Model_122 d_Model_says_90 ?_
  refine X_isub d_Model_says_92 ?_
  refine X_astI (show (xup (xup xYf 73 (some (sInts 200))) 74 (some (sInts 6))) 73 = some (sInts 200) from rfl) (ixin (show nI n = nI n from rfl) (show n < 200 by omega) (by decide)) d_Model_says_93 ?_
  rw [ixcl (x := nI n) (show nI n = nI n from rfl) (show n < 2 ^ 31 by omega)]
  refine X_iinc d_Model_says_94 rfl (v := (nI n) + 1) rfl (by decide) [1, 2, 0, 3, 4] (L' := [(0, .ref (xg G 59)), (1, .int (nI p)), (2, .int ((nI n) + 1)), (3, .int (nI i)), (4, .int tc)]) rfl ?_
  refine X_goto (tgt := 191) d_Model_says_97 (by decide) ?_
  refine X_iinc d_Model_says_191 rfl (v := (nI i) + 1) rfl (by decide) [1, 2, 3, 0, 4] (L' := [(0, .ref (xg G 59)), (1, .int (nI p)), (2, .int ((nI n) + 1)), (3, .int ((nI i) + 1)), (4, .int tc)]) rfl ?_
  refine X_goto (tgt := 16) d_Model_says_194 (by decide) ?_
  refine X_sub [0, 1, 2, 3] (L' := [(0, .ref (xg G 59)), (1, .int (nI p)), (2, .int ((nI n) + 1)), (3, .int ((nI i) + 1))]) rfl ?_
  simp only [nI_1, xw_rec]
  exact ih
theorem w_Model_says_name (l : Launch) (G : xG) {d : Nat} (nn : Nat) (hd : 2 ≤ d) (J : xI) (p ln b : Nat) (hp : p < 3) (hb : b ≤ 160) (hl : ln < 6) (hrule : J 59 9 = nI ln) (hend : J 65 (4 * ln + p + 1) = nI b) (r : Int32) (Y' : xY) (I' : xI) (g : Nat → Int32) (i : Nat) (hi : i < b)  (e : Nat) (he : e < 6) (tc : Int32) (htc : tc = nI e) (hc : J 64 (200 * ln + i) = tc) (v : Int32) (hv : J 74 e = v) (n : Nat) (hn : n < 40) (ih : Q_Model_says l G d nn J p r Y' I' (xup g n v) (n + 1) (i + 1)) : Q_Model_says l G d nn J p r Y' I' g (n) i := by
  unfold Q_Model_says
  refine X_iload_n d_Model_says_16 rfl rfl ?_
  refine X_aload_n d_Model_says_17 rfl rfl ?_
  refine X_getR (r := 65) fg_Model_25 (show (xup (xup xYf 73 (some (sInts 200))) 74 (some (sInts 6))) 59 = some sModel from rfl) rfl d_Model_says_18 ?_
  refine X_iconst (v := 4) d_Model_says_21 rfl ?_
  refine X_aload_n d_Model_says_22 rfl rfl ?_
  refine X_getI (v := nI ln) fg_Model_73 (show (xup (xup xYf 73 (some (sInts 200))) 74 (some (sInts 6))) 59 = some sModel from rfl) rfl ((congrFun (xup_n _ _ (by decide)) _).trans (hrule)) d_Model_says_23 ?_
  refine X_imul d_Model_says_26 ?_
  refine X_iload_n d_Model_says_27 rfl rfl ?_
  refine X_iadd d_Model_says_28 ?_
  refine X_iconst (v := 1) d_Model_says_29 rfl ?_
  refine X_iadd d_Model_says_30 ?_
  refine X_aldI (v := nI b) (show (xup (xup xYf 73 (some (sInts 200))) 74 (some (sInts 6))) 65 = some (sInts 24) from rfl) (ixin (ixA (ixA (ixM (show (4 : Int32) = nI 4 from rfl) (show nI ln = nI ln from rfl)) (show nI p = nI p from rfl)) (show (1 : Int32) = nI 1 from rfl)) (show 4 * ln + p + 1 < 24 by omega) (by decide)) ((ixv (ixA (ixA (ixM (show (4 : Int32) = nI 4 from rfl) (show nI ln = nI ln from rfl)) (show nI p = nI p from rfl)) (show (1 : Int32) = nI 1 from rfl)) (show 4 * ln + p + 1 < 2 ^ 31 by omega) ((congrFun (xup_n _ _ (by decide)) _).trans (hend)))) d_Model_says_31 ?_
  refine X_icmp_ge (tgt := 197) d_Model_says_32 (by decide) (fun c_1 => absurd c_1 (nI_ge hi (by omega))) (fun _ => ?_)
  refine X_aload_n d_Model_says_35 rfl rfl ?_
  refine X_getR (r := 64) fg_Model_22 (show (xup (xup xYf 73 (some (sInts 200))) 74 (some (sInts 6))) 59 = some sModel from rfl) rfl d_Model_says_36 ?_
  refine X_sipush (v := 200) d_Model_says_39 rfl ?_
  refine X_aload_n d_Model_says_42 rfl rfl ?_
  refine X_getI (v := nI ln) fg_Model_73 (show (xup (xup xYf 73 (some (sInts 200))) 74 (some (sInts 6))) 59 = some sModel from rfl) rfl ((congrFun (xup_n _ _ (by decide)) _).trans (hrule)) d_Model_says_43 ?_
  refine X_imul d_Model_says_46 ?_
  refine X_iload_n d_Model_says_47 rfl rfl ?_
  refine X_iadd d_Model_says_48 ?_
  refine X_aldI (v := tc) (show (xup (xup xYf 73 (some (sInts 200))) 74 (some (sInts 6))) 64 = some (sInts 1200) from rfl) (ixin (ixA (ixM (show (200 : Int32) = nI 200 from rfl) (show nI ln = nI ln from rfl)) (show nI i = nI i from rfl)) (show 200 * ln + i < 1200 by omega) (by decide)) ((ixv (ixA (ixM (show (200 : Int32) = nI 200 from rfl) (show nI ln = nI ln from rfl)) (show nI i = nI i from rfl)) (show 200 * ln + i < 2 ^ 31 by omega) ((congrFun (xup_n _ _ (by decide)) _).trans (hc)))) d_Model_says_49 ?_
  refine X_istore d_Model_says_50 (by decide) [1, 2, 3, 4, 0] (L' := [(0, .ref (xg G 59)), (1, .int (nI p)), (2, .int (nI n)), (3, .int (nI i)), (4, .int tc)]) rfl ?_
  refine X_iload d_Model_says_52 rfl ?_
  refine X_ldc cs_Model_122 d_Model_says_54 ?_
  refine X_icmp_ge (tgt := 66) d_Model_says_56 (by decide) (fun c_2 => absurd c_2 (show ¬ 100000 ≤ tc from by rw [htc]; exact (show ¬ nI 100000 ≤ nI e from nI_ge (by omega) (by decide)))) (fun _ => ?_)
  refine X_iload d_Model_says_59 rfl ?_
  refine X_bipush (v := 11) d_Model_says_61 rfl ?_
  refine X_icmp_ge (tgt := 100) d_Model_says_63 (by decide) (fun c_3 => absurd c_3 (show ¬ 11 ≤ tc from by rw [htc]; exact (show ¬ nI 11 ≤ nI e from nI_ge (by omega) (by decide)))) (fun _ => ?_)
  refine X_aload_n d_Model_says_66 rfl rfl ?_
  refine X_getR (r := 73) fg_Model_49 (show (xup (xup xYf 73 (some (sInts 200))) 74 (some (sInts 6))) 59 = some sModel from rfl) rfl d_Model_says_67 ?_
  refine X_iload_n d_Model_says_70 rfl rfl ?_
  refine X_iload d_Model_says_71 rfl ?_
  refine X_bipush (v := 11) d_Model_says_73 rfl ?_
  refine X_icmp_ge (tgt := 88) d_Model_says_75 (by decide) (fun c_4 => absurd c_4 (show ¬ 11 ≤ tc from by rw [htc]; exact (show ¬ nI 11 ≤ nI e from nI_ge (by omega) (by decide)))) (fun _ => ?_)
  refine X_aload_n d_Model_says_78 rfl rfl ?_
  refine X_getR (r := 74) fg_Model_52 (show (xup (xup xYf 73 (some (sInts 200))) 74 (some (sInts 6))) 59 = some sModel from rfl) rfl d_Model_says_79 ?_
  refine X_iload d_Model_says_82 rfl ?_
  rw [htc]
  refine X_aldI (v := v) (show (xup (xup xYf 73 (some (sInts 200))) 74 (some (sInts 6))) 74 = some (sInts 6) from rfl) (ixin (show nI e = nI e from rfl) (show e < 6 by omega) (by decide)) ((ixv (show nI e = nI e from rfl) (show e < 2 ^ 31 by omega) ((congrFun (xup_n _ _ (by decide)) _).trans (hv)))) d_Model_says_84 ?_
  refine X_goto (tgt := 93) d_Model_says_85 (by decide) ?_
  refine X_astI (show (xup (xup xYf 73 (some (sInts 200))) 74 (some (sInts 6))) 73 = some (sInts 200) from rfl) (ixin (show nI n = nI n from rfl) (show n < 200 by omega) (by decide)) d_Model_says_93 ?_
  rw [ixcl (x := nI n) (show nI n = nI n from rfl) (show n < 2 ^ 31 by omega)]
  refine X_iinc d_Model_says_94 rfl (v := (nI n) + 1) rfl (by decide) [1, 2, 0, 3, 4] (L' := [(0, .ref (xg G 59)), (1, .int (nI p)), (2, .int ((nI n) + 1)), (3, .int (nI i)), (4, .int (nI e))]) rfl ?_
  refine X_goto (tgt := 191) d_Model_says_97 (by decide) ?_
  refine X_iinc d_Model_says_191 rfl (v := (nI i) + 1) rfl (by decide) [1, 2, 3, 0, 4] (L' := [(0, .ref (xg G 59)), (1, .int (nI p)), (2, .int ((nI n) + 1)), (3, .int ((nI i) + 1)), (4, .int (nI e))]) rfl ?_
  refine X_goto (tgt := 16) d_Model_says_194 (by decide) ?_
  refine X_sub [0, 1, 2, 3] (L' := [(0, .ref (xg G 59)), (1, .int (nI p)), (2, .int ((nI n) + 1)), (3, .int ((nI i) + 1))]) rfl ?_
  simp only [nI_1, xw_rec]
  exact ih
theorem w_Model_says_not (l : Launch) (G : xG) {d : Nat} (nn : Nat) (hd : 2 ≤ d) (J : xI) (p ln b : Nat) (hp : p < 3) (hb : b ≤ 160) (hl : ln < 6) (hrule : J 59 9 = nI ln) (hend : J 65 (4 * ln + p + 1) = nI b) (r : Int32) (Y' : xY) (I' : xI) (g : Nat → Int32) (i : Nat) (hi : i < b) (tc : Int32) (hc : J 64 (200 * ln + i) = tc) (m : Nat) (hm : m + 1 ≤ 40) (hx1 : ¬ 100000 ≤ tc) (hx : 11 ≤ tc) (h13 : tc = 13) (ih : Q_Model_says l G d nn J p r Y' I' (xup g m (xb (decide (g m = 0)))) (m + 1) (i + 1)) : Q_Model_says l G d nn J p r Y' I' g (m + 1) i := by
  unfold Q_Model_says
  refine X_iload_n d_Model_says_16 rfl rfl ?_
  refine X_aload_n d_Model_says_17 rfl rfl ?_
  refine X_getR (r := 65) fg_Model_25 (show (xup (xup xYf 73 (some (sInts 200))) 74 (some (sInts 6))) 59 = some sModel from rfl) rfl d_Model_says_18 ?_
  refine X_iconst (v := 4) d_Model_says_21 rfl ?_
  refine X_aload_n d_Model_says_22 rfl rfl ?_
  refine X_getI (v := nI ln) fg_Model_73 (show (xup (xup xYf 73 (some (sInts 200))) 74 (some (sInts 6))) 59 = some sModel from rfl) rfl ((congrFun (xup_n _ _ (by decide)) _).trans (hrule)) d_Model_says_23 ?_
  refine X_imul d_Model_says_26 ?_
  refine X_iload_n d_Model_says_27 rfl rfl ?_
  refine X_iadd d_Model_says_28 ?_
  refine X_iconst (v := 1) d_Model_says_29 rfl ?_
  refine X_iadd d_Model_says_30 ?_
  refine X_aldI (v := nI b) (show (xup (xup xYf 73 (some (sInts 200))) 74 (some (sInts 6))) 65 = some (sInts 24) from rfl) (ixin (ixA (ixA (ixM (show (4 : Int32) = nI 4 from rfl) (show nI ln = nI ln from rfl)) (show nI p = nI p from rfl)) (show (1 : Int32) = nI 1 from rfl)) (show 4 * ln + p + 1 < 24 by omega) (by decide)) ((ixv (ixA (ixA (ixM (show (4 : Int32) = nI 4 from rfl) (show nI ln = nI ln from rfl)) (show nI p = nI p from rfl)) (show (1 : Int32) = nI 1 from rfl)) (show 4 * ln + p + 1 < 2 ^ 31 by omega) ((congrFun (xup_n _ _ (by decide)) _).trans (hend)))) d_Model_says_31 ?_
  refine X_icmp_ge (tgt := 197) d_Model_says_32 (by decide) (fun c_1 => absurd c_1 (nI_ge hi (by omega))) (fun _ => ?_)
  refine X_aload_n d_Model_says_35 rfl rfl ?_
  refine X_getR (r := 64) fg_Model_22 (show (xup (xup xYf 73 (some (sInts 200))) 74 (some (sInts 6))) 59 = some sModel from rfl) rfl d_Model_says_36 ?_
  refine X_sipush (v := 200) d_Model_says_39 rfl ?_
  refine X_aload_n d_Model_says_42 rfl rfl ?_
  refine X_getI (v := nI ln) fg_Model_73 (show (xup (xup xYf 73 (some (sInts 200))) 74 (some (sInts 6))) 59 = some sModel from rfl) rfl ((congrFun (xup_n _ _ (by decide)) _).trans (hrule)) d_Model_says_43 ?_
  refine X_imul d_Model_says_46 ?_
  refine X_iload_n d_Model_says_47 rfl rfl ?_
  refine X_iadd d_Model_says_48 ?_
  refine X_aldI (v := tc) (show (xup (xup xYf 73 (some (sInts 200))) 74 (some (sInts 6))) 64 = some (sInts 1200) from rfl) (ixin (ixA (ixM (show (200 : Int32) = nI 200 from rfl) (show nI ln = nI ln from rfl)) (show nI i = nI i from rfl)) (show 200 * ln + i < 1200 by omega) (by decide)) ((ixv (ixA (ixM (show (200 : Int32) = nI 200 from rfl) (show nI ln = nI ln from rfl)) (show nI i = nI i from rfl)) (show 200 * ln + i < 2 ^ 31 by omega) ((congrFun (xup_n _ _ (by decide)) _).trans (hc)))) d_Model_says_49 ?_
  refine X_istore d_Model_says_50 (by decide) [1, 2, 3, 4, 0] (L' := [(0, .ref (xg G 59)), (1, .int (nI p)), (2, .int (nI (m + 1))), (3, .int (nI i)), (4, .int tc)]) rfl ?_
  refine X_iload d_Model_says_52 rfl ?_
  refine X_ldc cs_Model_122 d_Model_says_54 ?_
  refine X_icmp_ge (tgt := 66) d_Model_says_56 (by decide) (fun c_2 => absurd c_2 hx1) (fun _ => ?_)
  refine X_iload d_Model_says_59 rfl ?_
  refine X_bipush (v := 11) d_Model_says_61 rfl ?_
  refine X_icmp_ge (tgt := 100) d_Model_says_63 (by decide) (fun _ => ?_) (fun c_3 => absurd c_3 (not_not_intro hx))
  refine X_iload d_Model_says_100 rfl ?_
  refine X_bipush (v := 13) d_Model_says_102 rfl ?_
  refine X_icmp_ne (tgt := 134) d_Model_says_104 (by decide) (fun c_4 => absurd c_4 (not_not_intro h13)) (fun _ => ?_)
  refine X_aload_n d_Model_says_107 rfl rfl ?_
  refine X_getR (r := 73) fg_Model_49 (show (xup (xup xYf 73 (some (sInts 200))) 74 (some (sInts 6))) 59 = some sModel from rfl) rfl d_Model_says_108 ?_
  refine X_iload_n d_Model_says_111 rfl rfl ?_
  refine X_iconst (v := 1) d_Model_says_112 rfl ?_
  refine X_isub d_Model_says_113 ?_
  refine X_aload_n d_Model_says_114 rfl rfl ?_
  refine X_getR (r := 73) fg_Model_49 (show (xup (xup xYf 73 (some (sInts 200))) 74 (some (sInts 6))) 59 = some sModel from rfl) rfl d_Model_says_115 ?_
  refine X_iload_n d_Model_says_118 rfl rfl ?_
  refine X_iconst (v := 1) d_Model_says_119 rfl ?_
  refine X_isub d_Model_says_120 ?_
  refine X_aldI (v := g m) (show (xup (xup xYf 73 (some (sInts 200))) 74 (some (sInts 6))) 73 = some (sInts 200) from rfl) (ixin (ixS (show nI (m + 1) = nI (m + 1) from rfl)) (show m < 200 by omega) (by decide)) ((ixv (ixS (show nI (m + 1) = nI (m + 1) from rfl)) (show m < 2 ^ 31 by omega) (congrFun (xup_s _ _ _) _))) d_Model_says_121 ?_
  refine X_if_ne (tgt := 129) d_Model_says_122 (by decide) (fun c_5 => ?_) (fun c_5 => ?_)
  ·
    refine X_iconst (v := 0) d_Model_says_129 rfl ?_
    refine X_astI (show (xup (xup xYf 73 (some (sInts 200))) 74 (some (sInts 6))) 73 = some (sInts 200) from rfl) (ixin (ixS (show nI (m + 1) = nI (m + 1) from rfl)) (show m < 200 by omega) (by decide)) d_Model_says_130 ?_
    rw [ixcl (x := (nI (m + 1)) - 1) (ixS (show nI (m + 1) = nI (m + 1) from rfl)) (show m < 2 ^ 31 by omega)]
    refine X_goto (tgt := 191) d_Model_says_131 (by decide) ?_
    refine X_iinc d_Model_says_191 rfl (v := (nI i) + 1) rfl (by decide) [1, 2, 3, 0, 4] (L' := [(0, .ref (xg G 59)), (1, .int (nI p)), (2, .int (nI (m + 1))), (3, .int ((nI i) + 1)), (4, .int tc)]) rfl ?_
    refine X_goto (tgt := 16) d_Model_says_194 (by decide) ?_
    refine X_sub [0, 1, 2, 3] (L' := [(0, .ref (xg G 59)), (1, .int (nI p)), (2, .int (nI (m + 1))), (3, .int ((nI i) + 1))]) rfl ?_
    simp only [nI_1, xw_rec]
    have hz : xb (decide (g m = 0)) = 0 := by simp [xb, c_5]
    rw [hz] at ih
    exact ih
  ·
    refine X_iconst (v := 1) d_Model_says_125 rfl ?_
    refine X_goto (tgt := 130) d_Model_says_126 (by decide) ?_
    refine X_astI (show (xup (xup xYf 73 (some (sInts 200))) 74 (some (sInts 6))) 73 = some (sInts 200) from rfl) (ixin (ixS (show nI (m + 1) = nI (m + 1) from rfl)) (show m < 200 by omega) (by decide)) d_Model_says_130 ?_
    rw [ixcl (x := (nI (m + 1)) - 1) (ixS (show nI (m + 1) = nI (m + 1) from rfl)) (show m < 2 ^ 31 by omega)]
    refine X_goto (tgt := 191) d_Model_says_131 (by decide) ?_
    refine X_iinc d_Model_says_191 rfl (v := (nI i) + 1) rfl (by decide) [1, 2, 3, 0, 4] (L' := [(0, .ref (xg G 59)), (1, .int (nI p)), (2, .int (nI (m + 1))), (3, .int ((nI i) + 1)), (4, .int tc)]) rfl ?_
    refine X_goto (tgt := 16) d_Model_says_194 (by decide) ?_
    refine X_sub [0, 1, 2, 3] (L' := [(0, .ref (xg G 59)), (1, .int (nI p)), (2, .int (nI (m + 1))), (3, .int ((nI i) + 1))]) rfl ?_
    simp only [nI_1, xw_rec]
    have hz : xb (decide (g m = 0)) = 1 := by simp [xb, c_5]
    rw [hz] at ih
    exact ih
theorem w_Model_says_neg (l : Launch) (G : xG) {d : Nat} (nn : Nat) (hd : 2 ≤ d) (J : xI) (p ln b : Nat) (hp : p < 3) (hb : b ≤ 160) (hl : ln < 6) (hrule : J 59 9 = nI ln) (hend : J 65 (4 * ln + p + 1) = nI b) (r : Int32) (Y' : xY) (I' : xI) (g : Nat → Int32) (i : Nat) (hi : i < b) (tc : Int32) (hc : J 64 (200 * ln + i) = tc) (m : Nat) (hm : m + 1 ≤ 40) (hx1 : ¬ 100000 ≤ tc) (hx : 11 ≤ tc) (h13 : ¬ tc = 13) (h19 : tc = 19) (ih : Q_Model_says l G d nn J p r Y' I' (xup g m (-g m)) (m + 1) (i + 1)) : Q_Model_says l G d nn J p r Y' I' g (m + 1) i := by
  unfold Q_Model_says
  refine X_iload_n d_Model_says_16 rfl rfl ?_
  refine X_aload_n d_Model_says_17 rfl rfl ?_
  refine X_getR (r := 65) fg_Model_25 (show (xup (xup xYf 73 (some (sInts 200))) 74 (some (sInts 6))) 59 = some sModel from rfl) rfl d_Model_says_18 ?_
  refine X_iconst (v := 4) d_Model_says_21 rfl ?_
  refine X_aload_n d_Model_says_22 rfl rfl ?_
  refine X_getI (v := nI ln) fg_Model_73 (show (xup (xup xYf 73 (some (sInts 200))) 74 (some (sInts 6))) 59 = some sModel from rfl) rfl ((congrFun (xup_n _ _ (by decide)) _).trans (hrule)) d_Model_says_23 ?_
  refine X_imul d_Model_says_26 ?_
  refine X_iload_n d_Model_says_27 rfl rfl ?_
  refine X_iadd d_Model_says_28 ?_
  refine X_iconst (v := 1) d_Model_says_29 rfl ?_
  refine X_iadd d_Model_says_30 ?_
  refine X_aldI (v := nI b) (show (xup (xup xYf 73 (some (sInts 200))) 74 (some (sInts 6))) 65 = some (sInts 24) from rfl) (ixin (ixA (ixA (ixM (show (4 : Int32) = nI 4 from rfl) (show nI ln = nI ln from rfl)) (show nI p = nI p from rfl)) (show (1 : Int32) = nI 1 from rfl)) (show 4 * ln + p + 1 < 24 by omega) (by decide)) ((ixv (ixA (ixA (ixM (show (4 : Int32) = nI 4 from rfl) (show nI ln = nI ln from rfl)) (show nI p = nI p from rfl)) (show (1 : Int32) = nI 1 from rfl)) (show 4 * ln + p + 1 < 2 ^ 31 by omega) ((congrFun (xup_n _ _ (by decide)) _).trans (hend)))) d_Model_says_31 ?_
  refine X_icmp_ge (tgt := 197) d_Model_says_32 (by decide) (fun c_1 => absurd c_1 (nI_ge hi (by omega))) (fun _ => ?_)
  refine X_aload_n d_Model_says_35 rfl rfl ?_
  refine X_getR (r := 64) fg_Model_22 (show (xup (xup xYf 73 (some (sInts 200))) 74 (some (sInts 6))) 59 = some sModel from rfl) rfl d_Model_says_36 ?_
  refine X_sipush (v := 200) d_Model_says_39 rfl ?_
  refine X_aload_n d_Model_says_42 rfl rfl ?_
  refine X_getI (v := nI ln) fg_Model_73 (show (xup (xup xYf 73 (some (sInts 200))) 74 (some (sInts 6))) 59 = some sModel from rfl) rfl ((congrFun (xup_n _ _ (by decide)) _).trans (hrule)) d_Model_says_43 ?_
  refine X_imul d_Model_says_46 ?_
  refine X_iload_n d_Model_says_47 rfl rfl ?_
  refine X_iadd d_Model_says_48 ?_
  refine X_aldI (v := tc) (show (xup (xup xYf 73 (some (sInts 200))) 74 (some (sInts 6))) 64 = some (sInts 1200) from rfl) (ixin (ixA (ixM (show (200 : Int32) = nI 200 from rfl) (show nI ln = nI ln from rfl)) (show nI i = nI i from rfl)) (show 200 * ln + i < 1200 by omega) (by decide)) ((ixv (ixA (ixM (show (200 : Int32) = nI 200 from rfl) (show nI ln = nI ln from rfl)) (show nI i = nI i from rfl)) (show 200 * ln + i < 2 ^ 31 by omega) ((congrFun (xup_n _ _ (by decide)) _).trans (hc)))) d_Model_says_49 ?_
  refine X_istore d_Model_says_50 (by decide) [1, 2, 3, 4, 0] (L' := [(0, .ref (xg G 59)), (1, .int (nI p)), (2, .int (nI (m + 1))), (3, .int (nI i)), (4, .int tc)]) rfl ?_
  refine X_iload d_Model_says_52 rfl ?_
  refine X_ldc cs_Model_122 d_Model_says_54 ?_
  refine X_icmp_ge (tgt := 66) d_Model_says_56 (by decide) (fun c_2 => absurd c_2 hx1) (fun _ => ?_)
  refine X_iload d_Model_says_59 rfl ?_
  refine X_bipush (v := 11) d_Model_says_61 rfl ?_
  refine X_icmp_ge (tgt := 100) d_Model_says_63 (by decide) (fun _ => ?_) (fun c_3 => absurd c_3 (not_not_intro hx))
  refine X_iload d_Model_says_100 rfl ?_
  refine X_bipush (v := 13) d_Model_says_102 rfl ?_
  refine X_icmp_ne (tgt := 134) d_Model_says_104 (by decide) (fun _ => ?_) (fun c_4 => absurd c_4 h13)
  refine X_iload d_Model_says_134 rfl ?_
  refine X_bipush (v := 19) d_Model_says_136 rfl ?_
  refine X_icmp_ne (tgt := 161) d_Model_says_138 (by decide) (fun c_5 => absurd c_5 (not_not_intro h19)) (fun _ => ?_)
  refine X_aload_n d_Model_says_141 rfl rfl ?_
  refine X_getR (r := 73) fg_Model_49 (show (xup (xup xYf 73 (some (sInts 200))) 74 (some (sInts 6))) 59 = some sModel from rfl) rfl d_Model_says_142 ?_
  refine X_iload_n d_Model_says_145 rfl rfl ?_
  refine X_iconst (v := 1) d_Model_says_146 rfl ?_
  refine X_isub d_Model_says_147 ?_
  refine X_aload_n d_Model_says_148 rfl rfl ?_
  refine X_getR (r := 73) fg_Model_49 (show (xup (xup xYf 73 (some (sInts 200))) 74 (some (sInts 6))) 59 = some sModel from rfl) rfl d_Model_says_149 ?_
  refine X_iload_n d_Model_says_152 rfl rfl ?_
  refine X_iconst (v := 1) d_Model_says_153 rfl ?_
  refine X_isub d_Model_says_154 ?_
  refine X_aldI (v := g m) (show (xup (xup xYf 73 (some (sInts 200))) 74 (some (sInts 6))) 73 = some (sInts 200) from rfl) (ixin (ixS (show nI (m + 1) = nI (m + 1) from rfl)) (show m < 200 by omega) (by decide)) ((ixv (ixS (show nI (m + 1) = nI (m + 1) from rfl)) (show m < 2 ^ 31 by omega) (congrFun (xup_s _ _ _) _))) d_Model_says_155 ?_
  refine X_ineg d_Model_says_156 ?_
  refine X_astI (show (xup (xup xYf 73 (some (sInts 200))) 74 (some (sInts 6))) 73 = some (sInts 200) from rfl) (ixin (ixS (show nI (m + 1) = nI (m + 1) from rfl)) (show m < 200 by omega) (by decide)) d_Model_says_157 ?_
  rw [ixcl (x := (nI (m + 1)) - 1) (ixS (show nI (m + 1) = nI (m + 1) from rfl)) (show m < 2 ^ 31 by omega)]
  refine X_goto (tgt := 191) d_Model_says_158 (by decide) ?_
  refine X_iinc d_Model_says_191 rfl (v := (nI i) + 1) rfl (by decide) [1, 2, 3, 0, 4] (L' := [(0, .ref (xg G 59)), (1, .int (nI p)), (2, .int (nI (m + 1))), (3, .int ((nI i) + 1)), (4, .int tc)]) rfl ?_
  refine X_goto (tgt := 16) d_Model_says_194 (by decide) ?_
  refine X_sub [0, 1, 2, 3] (L' := [(0, .ref (xg G 59)), (1, .int (nI p)), (2, .int (nI (m + 1))), (3, .int ((nI i) + 1))]) rfl ?_
  simp only [nI_1, xw_rec]
  exact ih
theorem w_Model_says_bin (l : Launch) (G : xG) {d : Nat} (nn : Nat) (hd : 2 ≤ d) (J : xI) (p ln b : Nat) (hp : p < 3) (hb : b ≤ 160) (hl : ln < 6) (hrule : J 59 9 = nI ln) (hend : J 65 (4 * ln + p + 1) = nI b) (r : Int32) (Y' : xY) (I' : xI) (g : Nat → Int32) (i : Nat) (hi : i < b) (tc : Int32) (hc : J 64 (200 * ln + i) = tc) (m : Nat) (hm : m + 1 + 1 ≤ 40) (hx1 : ¬ 100000 ≤ tc) (hx : 11 ≤ tc) (h13 : ¬ tc = 13) (h19 : ¬ tc = 19) (ih : Q_Model_says l G d nn J p r Y' I' (xup g m (xtwo tc (g m) (g (m + 1)))) (m + 1) (i + 1)) : Q_Model_says l G d nn J p r Y' I' g (m + 1 + 1) i := by
  unfold Q_Model_says
  refine X_iload_n d_Model_says_16 rfl rfl ?_
  refine X_aload_n d_Model_says_17 rfl rfl ?_
  refine X_getR (r := 65) fg_Model_25 (show (xup (xup xYf 73 (some (sInts 200))) 74 (some (sInts 6))) 59 = some sModel from rfl) rfl d_Model_says_18 ?_
  refine X_iconst (v := 4) d_Model_says_21 rfl ?_
  refine X_aload_n d_Model_says_22 rfl rfl ?_
  refine X_getI (v := nI ln) fg_Model_73 (show (xup (xup xYf 73 (some (sInts 200))) 74 (some (sInts 6))) 59 = some sModel from rfl) rfl ((congrFun (xup_n _ _ (by decide)) _).trans (hrule)) d_Model_says_23 ?_
  refine X_imul d_Model_says_26 ?_
  refine X_iload_n d_Model_says_27 rfl rfl ?_
  refine X_iadd d_Model_says_28 ?_
  refine X_iconst (v := 1) d_Model_says_29 rfl ?_
  refine X_iadd d_Model_says_30 ?_
  refine X_aldI (v := nI b) (show (xup (xup xYf 73 (some (sInts 200))) 74 (some (sInts 6))) 65 = some (sInts 24) from rfl) (ixin (ixA (ixA (ixM (show (4 : Int32) = nI 4 from rfl) (show nI ln = nI ln from rfl)) (show nI p = nI p from rfl)) (show (1 : Int32) = nI 1 from rfl)) (show 4 * ln + p + 1 < 24 by omega) (by decide)) ((ixv (ixA (ixA (ixM (show (4 : Int32) = nI 4 from rfl) (show nI ln = nI ln from rfl)) (show nI p = nI p from rfl)) (show (1 : Int32) = nI 1 from rfl)) (show 4 * ln + p + 1 < 2 ^ 31 by omega) ((congrFun (xup_n _ _ (by decide)) _).trans (hend)))) d_Model_says_31 ?_
  refine X_icmp_ge (tgt := 197) d_Model_says_32 (by decide) (fun c_1 => absurd c_1 (nI_ge hi (by omega))) (fun _ => ?_)
  refine X_aload_n d_Model_says_35 rfl rfl ?_
  refine X_getR (r := 64) fg_Model_22 (show (xup (xup xYf 73 (some (sInts 200))) 74 (some (sInts 6))) 59 = some sModel from rfl) rfl d_Model_says_36 ?_
  refine X_sipush (v := 200) d_Model_says_39 rfl ?_
  refine X_aload_n d_Model_says_42 rfl rfl ?_
  refine X_getI (v := nI ln) fg_Model_73 (show (xup (xup xYf 73 (some (sInts 200))) 74 (some (sInts 6))) 59 = some sModel from rfl) rfl ((congrFun (xup_n _ _ (by decide)) _).trans (hrule)) d_Model_says_43 ?_
  refine X_imul d_Model_says_46 ?_
  refine X_iload_n d_Model_says_47 rfl rfl ?_
  refine X_iadd d_Model_says_48 ?_
  refine X_aldI (v := tc) (show (xup (xup xYf 73 (some (sInts 200))) 74 (some (sInts 6))) 64 = some (sInts 1200) from rfl) (ixin (ixA (ixM (show (200 : Int32) = nI 200 from rfl) (show nI ln = nI ln from rfl)) (show nI i = nI i from rfl)) (show 200 * ln + i < 1200 by omega) (by decide)) ((ixv (ixA (ixM (show (200 : Int32) = nI 200 from rfl) (show nI ln = nI ln from rfl)) (show nI i = nI i from rfl)) (show 200 * ln + i < 2 ^ 31 by omega) ((congrFun (xup_n _ _ (by decide)) _).trans (hc)))) d_Model_says_49 ?_
  refine X_istore d_Model_says_50 (by decide) [1, 2, 3, 4, 0] (L' := [(0, .ref (xg G 59)), (1, .int (nI p)), (2, .int (nI (m + 1 + 1))), (3, .int (nI i)), (4, .int tc)]) rfl ?_
  refine X_iload d_Model_says_52 rfl ?_
  refine X_ldc cs_Model_122 d_Model_says_54 ?_
  refine X_icmp_ge (tgt := 66) d_Model_says_56 (by decide) (fun c_2 => absurd c_2 hx1) (fun _ => ?_)
  refine X_iload d_Model_says_59 rfl ?_
  refine X_bipush (v := 11) d_Model_says_61 rfl ?_
  refine X_icmp_ge (tgt := 100) d_Model_says_63 (by decide) (fun _ => ?_) (fun c_3 => absurd c_3 (not_not_intro hx))
  refine X_iload d_Model_says_100 rfl ?_
  refine X_bipush (v := 13) d_Model_says_102 rfl ?_
  refine X_icmp_ne (tgt := 134) d_Model_says_104 (by decide) (fun _ => ?_) (fun c_4 => absurd c_4 h13)
  refine X_iload d_Model_says_134 rfl ?_
  refine X_bipush (v := 19) d_Model_says_136 rfl ?_
  refine X_icmp_ne (tgt := 161) d_Model_says_138 (by decide) (fun _ => ?_) (fun c_5 => absurd c_5 h19)
  refine X_iinc d_Model_says_161 rfl (v := (nI (m + 1 + 1)) + (-1)) rfl (by decide) [1, 2, 0, 3, 4] (L' := [(0, .ref (xg G 59)), (1, .int (nI p)), (2, .int ((nI (m + 1 + 1)) + (-1))), (3, .int (nI i)), (4, .int tc)]) rfl ?_
  rw [pk_m1]
  refine X_aload_n d_Model_says_164 rfl rfl ?_
  refine X_getR (r := 73) fg_Model_49 (show (xup (xup xYf 73 (some (sInts 200))) 74 (some (sInts 6))) 59 = some sModel from rfl) rfl d_Model_says_165 ?_
  refine X_iload_n d_Model_says_168 rfl rfl ?_
  refine X_iconst (v := 1) d_Model_says_169 rfl ?_
  refine X_isub d_Model_says_170 ?_
  refine X_iload d_Model_says_171 rfl ?_
  refine X_aload_n d_Model_says_173 rfl rfl ?_
  refine X_getR (r := 73) fg_Model_49 (show (xup (xup xYf 73 (some (sInts 200))) 74 (some (sInts 6))) 59 = some sModel from rfl) rfl d_Model_says_174 ?_
  refine X_iload_n d_Model_says_177 rfl rfl ?_
  refine X_iconst (v := 1) d_Model_says_178 rfl ?_
  refine X_isub d_Model_says_179 ?_
  refine X_aldI (v := g m) (show (xup (xup xYf 73 (some (sInts 200))) 74 (some (sInts 6))) 73 = some (sInts 200) from rfl) (ixin (ixS (show nI (m + 1) = nI (m + 1) from rfl)) (show m < 200 by omega) (by decide)) ((ixv (ixS (show nI (m + 1) = nI (m + 1) from rfl)) (show m < 2 ^ 31 by omega) (congrFun (xup_s _ _ _) _))) d_Model_says_180 ?_
  refine X_aload_n d_Model_says_181 rfl rfl ?_
  refine X_getR (r := 73) fg_Model_49 (show (xup (xup xYf 73 (some (sInts 200))) 74 (some (sInts 6))) 59 = some sModel from rfl) rfl d_Model_says_182 ?_
  refine X_iload_n d_Model_says_185 rfl rfl ?_
  refine X_aldI (v := g (m + 1)) (show (xup (xup xYf 73 (some (sInts 200))) 74 (some (sInts 6))) 73 = some (sInts 200) from rfl) (ixin (show nI (m + 1) = nI (m + 1) from rfl) (show m + 1 < 200 by omega) (by decide)) ((ixv (show nI (m + 1) = nI (m + 1) from rfl) (show m + 1 < 2 ^ 31 by omega) (congrFun (xup_s _ _ _) _))) d_Model_says_186 ?_
  refine X_callS (v := .int (xtwo tc (g m) (g (m + 1)))) (rest := [.int ((nI (m + 1)) - 1), .ref (xg G 73)]) (c_Model_two l G nn _ (by omega) tc (g m) (g (m + 1))) lk_Model_two ml_Model_136 rfl (Nat.le_of_ble_eq_true rfl) (xRok (d' := d - 1) (by omega) (by decide)) ⟨Nat.le_refl _, Nat.le_refl _⟩ d_Model_says_187 rfl ?_
  refine X_astI (show (xup (xup xYf 73 (some (sInts 200))) 74 (some (sInts 6))) 73 = some (sInts 200) from rfl) (ixin (ixS (show nI (m + 1) = nI (m + 1) from rfl)) (show m < 200 by omega) (by decide)) d_Model_says_190 ?_
  rw [ixcl (x := (nI (m + 1)) - 1) (ixS (show nI (m + 1) = nI (m + 1) from rfl)) (show m < 2 ^ 31 by omega)]
  refine X_iinc d_Model_says_191 rfl (v := (nI i) + 1) rfl (by decide) [1, 2, 3, 0, 4] (L' := [(0, .ref (xg G 59)), (1, .int (nI p)), (2, .int (nI (m + 1))), (3, .int ((nI i) + 1)), (4, .int tc)]) rfl ?_
  refine X_goto (tgt := 16) d_Model_says_194 (by decide) ?_
  refine X_sub [0, 1, 2, 3] (L' := [(0, .ref (xg G 59)), (1, .int (nI p)), (2, .int (nI (m + 1))), (3, .int ((nI i) + 1))]) rfl ?_
  simp only [nI_1, xw_rec]
  exact ih
theorem w_Model_says_exit (l : Launch) (G : xG) {d : Nat} (nn : Nat) (hd : 2 ≤ d) (J : xI) (p ln b : Nat) (hp : p < 3) (hb : b ≤ 160) (hl : ln < 6) (hrule : J 59 9 = nI ln) (hend : J 65 (4 * ln + p + 1) = nI b) (r : Int32) (Y' : xY) (I' : xI) (g : Nat → Int32) (n i : Nat) (hi : i = b) (hr : r = g 0) (hle : xle (xm G (xup (xup xYf 73 (some (sInts 200))) 74 (some (sInts 6))) (xup J 73 g)) (xm G Y' I')) : Q_Model_says l G d nn J p r Y' I' g n i := by
  unfold Q_Model_says
  refine X_iload_n d_Model_says_16 rfl rfl ?_
  refine X_aload_n d_Model_says_17 rfl rfl ?_
  refine X_getR (r := 65) fg_Model_25 (show (xup (xup xYf 73 (some (sInts 200))) 74 (some (sInts 6))) 59 = some sModel from rfl) rfl d_Model_says_18 ?_
  refine X_iconst (v := 4) d_Model_says_21 rfl ?_
  refine X_aload_n d_Model_says_22 rfl rfl ?_
  refine X_getI (v := nI ln) fg_Model_73 (show (xup (xup xYf 73 (some (sInts 200))) 74 (some (sInts 6))) 59 = some sModel from rfl) rfl ((congrFun (xup_n _ _ (by decide)) _).trans (hrule)) d_Model_says_23 ?_
  refine X_imul d_Model_says_26 ?_
  refine X_iload_n d_Model_says_27 rfl rfl ?_
  refine X_iadd d_Model_says_28 ?_
  refine X_iconst (v := 1) d_Model_says_29 rfl ?_
  refine X_iadd d_Model_says_30 ?_
  refine X_aldI (v := nI b) (show (xup (xup xYf 73 (some (sInts 200))) 74 (some (sInts 6))) 65 = some (sInts 24) from rfl) (ixin (ixA (ixA (ixM (show (4 : Int32) = nI 4 from rfl) (show nI ln = nI ln from rfl)) (show nI p = nI p from rfl)) (show (1 : Int32) = nI 1 from rfl)) (show 4 * ln + p + 1 < 24 by omega) (by decide)) ((ixv (ixA (ixA (ixM (show (4 : Int32) = nI 4 from rfl) (show nI ln = nI ln from rfl)) (show nI p = nI p from rfl)) (show (1 : Int32) = nI 1 from rfl)) (show 4 * ln + p + 1 < 2 ^ 31 by omega) ((congrFun (xup_n _ _ (by decide)) _).trans (hend)))) d_Model_says_31 ?_
  refine X_icmp_ge (tgt := 197) d_Model_says_32 (by decide) (fun _ => ?_) (fun c_1 => absurd c_1 (not_not_intro (by rw [hi]; exact Int32.le_refl _)))
  refine X_aload_n d_Model_says_197 rfl rfl ?_
  refine X_getR (r := 73) fg_Model_49 (show (xup (xup xYf 73 (some (sInts 200))) 74 (some (sInts 6))) 59 = some sModel from rfl) rfl d_Model_says_198 ?_
  refine X_iconst (v := 0) d_Model_says_201 rfl ?_
  refine X_aldI (v := g 0) (show (xup (xup xYf 73 (some (sInts 200))) 74 (some (sInts 6))) 73 = some (sInts 200) from rfl) (ixin (show (0 : Int32) = nI 0 from rfl) (show 0 < 200 by omega) (by decide)) ((ixv (show (0 : Int32) = nI 0 from rfl) (show 0 < 2 ^ 31 by omega) (congrFun (xup_s _ _ _) _))) d_Model_says_202 ?_
  exact X_iret rfl (by rw [hr]) hle d_Model_says_203
theorem mSays_loop (l : Launch) (G : xG) {d : Nat} (nn : Nat) (hd : 2 ≤ d) (J : xI) (p ln b : Nat) (hp : p < 3) (hb : b ≤ 160) (hl : ln < 6) (hrule : J 59 9 = nI ln) (hend : J 65 (4 * ln + p + 1) = nI b) (r : Int32) (Y' : xY) (I' : xI) (f : Nat → Int32) (speed eyes : Int32) (hnm : ∀ e, e < 6 → J 74 e = xname (nI e) f speed eyes) (hle : ∀ g, xle (xm G (xup (xup xYf 73 (some (sInts 200))) 74 (some (sInts 6))) (xup J 73 g)) (xm G Y' I')) : ∀ (cs st : List Int32) (g : Nat → Int32) (i : Nat), tDep cs st.length = true → tSt g st → (∀ j, j < cs.length → J 64 (200 * ln + (i + j)) = cs.getD j 0) → i + cs.length = b → st.length ≤ 40 → r = (tRun f speed eyes cs st).headD 0 → Q_Model_says l G d nn J p r Y' I' g st.length i := by
  intro cs
  induction cs with
  | nil =>
    intro st g i hdep hst hcode hib hlen hr
    have h1st : st.length = 1 := by simpa [tDep] using hdep
    match st, h1st with
    | [a], _ =>
      refine w_Model_says_exit l G nn hd J p ln b hp hb hl hrule hend r Y' I' g _ i (by simpa using hib) ?_ (hle g)
      rw [hr, show g 0 = a from tSt_top hst]
      rfl
  | cons c cs ih =>
    intro st g i hdep hst hcode hib hlen hr
    have hlt : i < b := by rw [List.length_cons] at hib; omega
    have hc : J 64 (200 * ln + i) = c := by have := hcode 0 (by simp); simpa using this
    have hcode' : ∀ j, j < cs.length → J 64 (200 * ln + (i + 1 + j)) = cs.getD j 0 := by
      intro j hj
      have := hcode (j + 1) (by rw [List.length_cons]; omega)
      rw [List.getD_cons_succ] at this
      rw [← this]
      congr 1
      omega
    have hib' : i + 1 + cs.length = b := by rw [List.length_cons] at hib; omega
    rw [tDep] at hdep
    rw [tRun] at hr
    unfold tPut at hr
    by_cases hlf : tLeaf c = true
    · rw [if_pos hlf] at hdep hr
      simp only [Bool.and_eq_true, decide_eq_true_eq] at hdep
      rcases tLeaf_of hlf with ⟨q1, q2, q3⟩ | ⟨q1, q2, q3⟩
      · obtain ⟨e, he, rfl⟩ := nI_of (Int32.not_lt.mpr q1)
        have he6 : e < 6 := (nI_ltI (b := 6) he (by decide)).mp q2
        have hv : tVal (nI e) f speed eyes = xname (nI e) f speed eyes := by rw [tVal, if_pos (by grind)]
        refine w_Model_says_name l G nn hd J p ln b hp hb hl hrule hend r Y' I' g i hlt e he6 (nI e) rfl hc _ (hnm e he6) _ hdep.1 ?_
        rw [← hv]
        exact ih (tVal (nI e) f speed eyes :: st) _ (i + 1) hdep.2 (tSt_push hst _) hcode' hib' (by rw [List.length_cons]; omega) hr
      · have hv : tVal c f speed eyes = c - 100000 := by rw [tVal, if_neg (by grind)]
        refine w_Model_says_num l G nn hd J p ln b hp hb hl hrule hend r Y' I' g i hlt c hc _ hdep.1 q1 ?_
        rw [← hv]
        exact ih (tVal c f speed eyes :: st) _ (i + 1) hdep.2 (tSt_push hst _) hcode' hib' (by rw [List.length_cons]; omega) hr
    · rw [if_neg hlf] at hdep hr
      by_cases hu : tUn c = true
      · rw [if_pos hu] at hdep hr
        simp only [Bool.and_eq_true, decide_eq_true_eq] at hdep
        match st, hdep.1 with
        | a :: st, _ =>
          have ha := tSt_top hst
          have hpush := tSt_push (tSt_tl hst)
          rcases tUn_of hu with rfl | rfl
          · refine w_Model_says_not l G nn hd J p ln b hp hb hl hrule hend r Y' I' g i hlt 13 hc st.length hlen (by decide) (by decide) rfl ?_
            rw [ha]
            exact ih (tOne 13 a :: st) _ (i + 1) hdep.2 (hpush _) hcode' hib' hlen hr
          · refine w_Model_says_neg l G nn hd J p ln b hp hb hl hrule hend r Y' I' g i hlt 19 hc st.length hlen (by decide) (by decide) (by decide) rfl ?_
            rw [ha]
            exact ih (tOne 19 a :: st) _ (i + 1) hdep.2 (hpush _) hcode' hib' hlen hr
      · rw [if_neg hu] at hdep hr
        simp only [Bool.and_eq_true, decide_eq_true_eq] at hdep
        obtain ⟨⟨hbin, h2⟩, hd2⟩ := hdep
        have hbb : c = 11 ∨ c = 12 ∨ c = 14 ∨ c = 15 ∨ c = 16 ∨ c = 17 ∨ c = 18 := by
          simp [tBin] at hbin
          grind
        match st, h2 with
        | y :: x :: st, _ =>
          have hy := tSt_top hst
          have hx := tSt_top (tSt_tl hst)
          have hpush := tSt_push (tSt_tl (tSt_tl hst))
          rw [List.length_cons] at hy
          refine w_Model_says_bin l G nn hd J p ln b hp hb hl hrule hend r Y' I' g i hlt c hc st.length hlen (by rcases hbb with rfl | rfl | rfl | rfl | rfl | rfl | rfl <;> decide) (by rcases hbb with rfl | rfl | rfl | rfl | rfl | rfl | rfl <;> decide) (by rcases hbb with rfl | rfl | rfl | rfl | rfl | rfl | rfl <;> decide) (by rcases hbb with rfl | rfl | rfl | rfl | rfl | rfl | rfl <;> decide) ?_
          rw [hx, hy]
          exact ih (xtwo c x y :: st) _ (i + 1) hd2 (hpush _) hcode' hib' (by simp at hlen ⊢; omega) hr
theorem c_Model_says (l : Launch) (G : xG) {d : Nat} (nn : Nat) (hd : 2 ≤ d) (J : xI) (g : Nat → Int32) (p ln : Nat) (hp : p < 3) (hl : ln < 6) (S : xSay) (hT : mTx J ln S) (hrule : J 59 9 = nI ln) (f : Nat → Int32) (speed eyes : Int32) (hnm : ∀ e, e < 6 → J 74 e = xname (nI e) f speed eyes) (Y' : xY) (I' : xI) (hle : ∀ g, xle (xm G (xup (xup xYf 73 (some (sInts 200))) 74 (some (sInts 6))) (xup J 73 g)) (xm G Y' I')) : ∃ r, (S (nI p) speed eyes f = xbd r 0 (if nI p = 1 then 100 else 999)) ∧ XM l G d y_Model_says b_Model_says 5 (some .int) 0 0 xK0 [.ref (xg G 59), .int (nI p)] nn (xm G (xup (xup xYf 73 (some (sInts 200))) 74 (some (sInts 6))) (xup J 73 g)) (some (.int r)) nn (xm G Y' I') := by
  obtain ⟨P, a, b, hS, hdep, hab, hb, ha, hend, hcode⟩ := mTx_part hT hp
  refine ⟨(tRun f speed eyes P []).headD 0, hS speed eyes f, ?_⟩
  refine XM.of (by decide) (Nat.le_of_ble_eq_true rfl) (L := [(0, .ref (xg G 59)), (1, .int (nI p))]) rfl ?_
  refine X_iconst (v := 0) d_Model_says_0 rfl ?_
  refine X_istore_n d_Model_says_1 rfl (by decide) [1, 2, 0] (L' := [(0, .ref (xg G 59)), (1, .int (nI p)), (2, .int 0)]) rfl ?_
  refine X_aload_n d_Model_says_2 rfl rfl ?_
  refine X_getR (r := 65) fg_Model_25 (show (xup (xup xYf 73 (some (sInts 200))) 74 (some (sInts 6))) 59 = some sModel from rfl) rfl d_Model_says_3 ?_
  refine X_iconst (v := 4) d_Model_says_6 rfl ?_
  refine X_aload_n d_Model_says_7 rfl rfl ?_
  refine X_getI (v := nI ln) fg_Model_73 (show (xup (xup xYf 73 (some (sInts 200))) 74 (some (sInts 6))) 59 = some sModel from rfl) rfl ((congrFun (xup_n _ _ (by decide)) _).trans (hrule)) d_Model_says_8 ?_
  refine X_imul d_Model_says_11 ?_
  refine X_iload_n d_Model_says_12 rfl rfl ?_
  refine X_iadd d_Model_says_13 ?_
  refine X_aldI (v := nI a) (show (xup (xup xYf 73 (some (sInts 200))) 74 (some (sInts 6))) 65 = some (sInts 24) from rfl) (ixin (ixA (ixM (show (4 : Int32) = nI 4 from rfl) (show nI ln = nI ln from rfl)) (show nI p = nI p from rfl)) (show 4 * ln + p < 24 by omega) (by decide)) ((ixv (ixA (ixM (show (4 : Int32) = nI 4 from rfl) (show nI ln = nI ln from rfl)) (show nI p = nI p from rfl)) (show 4 * ln + p < 2 ^ 31 by omega) ((congrFun (xup_n _ _ (by decide)) _).trans (ha)))) d_Model_says_14 ?_
  refine X_istore_n d_Model_says_15 rfl (by decide) [1, 2, 3, 0] (L' := [(0, .ref (xg G 59)), (1, .int (nI p)), (2, .int 0), (3, .int (nI a))]) rfl ?_
  exact mSays_loop l G nn hd J p ln b hp hb hl hrule hend _ Y' I' f speed eyes hnm hle P [] g a hdep (fun k hk => absurd hk (Nat.not_lt_zero k)) hcode hab (by decide) rfl
