theorem zSs_o (r : Nat → Int32) (at_ bg tk va hm op ou v : Int32) {k : Nat} (h : k < 18) : xup (zS r at_ bg tk va hm op ou) k v = zS (xup r k v) at_ bg tk va hm op ou := by funext j; simp only [zS, xup]; grind
theorem zw65 (J : xI) (C R : Nat → Int32) (k : Nat) (v : Int32) : xw (xup (xup J 64 C) 59 R) 65 k v = xup (xup (xw J 65 k v) 64 C) 59 R := by
  rw [xw_is, xw_is, xup_n _ _ (show (65 : Nat) ≠ 59 by decide), xup_n _ _ (show (65 : Nat) ≠ 64 by decide)]
  funext x
  simp only [xup_ap]
  grind
theorem zw65h (J : xI) (C H R : Nat → Int32) (k : Nat) (v : Int32) : xw (xup (xup (xup J 64 C) 72 H) 59 R) 65 k v = xup (xup (xup (xw J 65 k v) 64 C) 72 H) 59 R := by
  rw [xw_is, xw_is, xup_n _ _ (show (65 : Nat) ≠ 59 by decide), xup_n _ _ (show (65 : Nat) ≠ 72 by decide), xup_n _ _ (show (65 : Nat) ≠ 64 by decide)]
  funext x
  simp only [xup_ap]
  grind
def Qt (l : Launch) (G : xG) (d nn : Nat) (J : xI) (tc : Nat) (kk : Int32) (p : Nat) (cs : List Int32) (b t v hm o ans : Int32) (J' : xI) : Prop := XW l G (xR d 0 0) y_Model_text b_Model_text 3 (some .int) xK0 (xZ G nn (xm G xYf J') (some (.int ans)) 0 0) nn (xm G xYf (xup (xup J 64 (zC (200 * tc) cs (J 64))) 59 (zS (J 59) (nI p) b t v hm o (nI cs.length)))) 0 0 26 [(0, .ref (xg G 59)), (1, .int 1), (2, .int kk)] []
theorem t_T1_0 (l : Launch) (G : xG) {d : Nat} (nn : Nat) (hd : 5 ≤ d) (J : xI) (tc : Nat) (h8 : J 59 8 = nI tc) (htc : tc < 6) (n : Nat) (h5 : J 59 5 = nI n) (hn : n ≤ 160) (hB : ∀ j, j < n → ¬ J 63 j < 0) (p : Nat) (hp : p ≤ n) (cs : List Int32) (hl : cs.length ≤ p) (b t v hm o : Int32) (tk v1 : Int32) (htk : zTk (J 71) (J 63) n (zBl (J 63) n p) = tk) (hva : zVa (J 71) (J 63) n (zBl (J 63) n p) = v1) (hn3 : ¬ tk = 3) : Qt l G d nn J tc 0 p cs b t v hm o ((-100) - (nI (zBl (J 63) n p))) (xup (xup (xw (xw J 65 (4 * tc + 0) (nI cs.length)) 65 (4 * tc + 3) (nI cs.length)) 64 (zC (200 * tc) cs (J 64))) 59 (zS (xup (J 59) 5 0) (nI (vNx (J 63) n (zBl (J 63) n p))) (nI (zBl (J 63) n p)) tk v1 hm o (nI cs.length))) := by
  unfold Qt
  refine X_iload_n d_Model_text_26 rfl rfl ?_
  refine X_iconst (v := 3) d_Model_text_27 rfl ?_
  refine X_icmp_ge (tgt := 101) d_Model_text_28 (by decide) (fun c_1 => absurd c_1 (by decide)) (fun _ => ?_)
  refine X_iload_n d_Model_text_31 rfl rfl ?_
  refine X_if_eq (tgt := 101) d_Model_text_32 (by decide) (fun c_2 => absurd c_2 (by decide)) (fun _ => ?_)
  refine X_aload_n d_Model_text_35 rfl rfl ?_
  refine X_knowI (a := 72) (by decide) rfl (fun H => ?_)
  rw [xup_comm (xup J 64 (zC (200 * tc) cs (J 64))) _ _ (show (59 : Nat) ≠ 72 by decide)]
  refine X_callVv (rest := []) (by have q0 := c_Model_next l G nn (d := d - 1) (by omega) J n h5 hn (zC (200 * tc) cs (J 64)) H b t v hm o (nI cs.length) hB p hp; rw [show rRun bBlank (J 63) n 160 p = (zBl (J 63) n p) from rfl, htk, hva] at q0; exact q0) lk_Model_next ml_Model_119 (xm_obj (show (xup xYf 72 (some (sInts 200))) 59 = some sModel from rfl)) rfl rfl (Nat.le_of_ble_eq_true rfl) (xRok (d' := d - 1) (by omega) (by decide)) ⟨Nat.le_refl _, Nat.le_refl _⟩ d_Model_text_36 rfl ?_
  refine X_aload_n d_Model_text_39 rfl rfl ?_
  refine X_getI (v := tk) fg_Model_86 (show (xup xYf 72 (some (sInts 200))) 59 = some sModel from rfl) rfl ((congrFun (xup_s _ _ _) _).trans (zS_20 _ _ _ _ _ _ _ _)) d_Model_text_40 ?_
  refine X_iconst (v := 3) d_Model_text_43 rfl ?_
  refine X_icmp_ne (tgt := 59) d_Model_text_44 (by decide) (fun _ => ?_) (fun c_3 => absurd c_3 hn3)
  refine X_iconst (v := 0) d_Model_text_59 rfl ?_
  refine X_istore_n d_Model_text_60 rfl (by decide) [1, 0, 2] (L' := [(0, .ref (xg G 59)), (1, .int 0), (2, .int 0)]) rfl ?_
  refine X_aload_n d_Model_text_61 rfl rfl ?_
  refine X_getR (r := 65) fg_Model_25 (show (xup xYf 72 (some (sInts 200))) 59 = some sModel from rfl) rfl d_Model_text_62 ?_
  refine X_iconst (v := 4) d_Model_text_65 rfl ?_
  refine X_aload_n d_Model_text_66 rfl rfl ?_
  refine X_getI (v := nI tc) fg_Model_70 (show (xup xYf 72 (some (sInts 200))) 59 = some sModel from rfl) rfl ((congrFun (xup_s _ _ _) _).trans ((zS_o _ _ _ _ _ _ _ _ (by decide)).trans (h8))) d_Model_text_67 ?_
  refine X_imul d_Model_text_70 ?_
  refine X_iload_n d_Model_text_71 rfl rfl ?_
  refine X_iadd d_Model_text_72 ?_
  refine X_aload_n d_Model_text_73 rfl rfl ?_
  refine X_getI (v := nI cs.length) fg_Model_96 (show (xup xYf 72 (some (sInts 200))) 59 = some sModel from rfl) rfl ((congrFun (xup_s _ _ _) _).trans (zS_26 _ _ _ _ _ _ _ _)) d_Model_text_74 ?_
  refine X_astI (show (xup xYf 72 (some (sInts 200))) 65 = some (sInts 24) from rfl) (ixin (ixA (ixM (show (4 : Int32) = nI 4 from rfl) (show nI tc = nI tc from rfl)) (show (0 : Int32) = nI 0 from rfl)) (show 4 * tc + 0 < 24 by omega) (by decide)) d_Model_text_77 ?_
  rw [ixcl (x := (4 * (nI tc)) + 0) (ixA (ixM (show (4 : Int32) = nI 4 from rfl) (show nI tc = nI tc from rfl)) (show (0 : Int32) = nI 0 from rfl)) (show 4 * tc + 0 < 2 ^ 31 by omega)]
  rw [zw65h]
  refine X_iload_n d_Model_text_78 rfl rfl ?_
  refine X_if_eq (tgt := 93) d_Model_text_79 (by decide) (fun _ => ?_) (fun c_4 => absurd c_4 (by decide))
  refine X_iconst (v := 0) d_Model_text_93 rfl ?_
  refine X_istore_n d_Model_text_94 rfl (by decide) [1, 0, 2] (L' := [(0, .ref (xg G 59)), (1, .int 0), (2, .int 0)]) rfl ?_
  refine X_iinc d_Model_text_95 rfl (v := 1) rfl (by decide) [1, 2, 0] (L' := [(0, .ref (xg G 59)), (1, .int 0), (2, .int 1)]) rfl ?_
  refine X_goto (tgt := 26) d_Model_text_98 (by decide) ?_
  refine X_iload_n d_Model_text_26 rfl rfl ?_
  refine X_iconst (v := 3) d_Model_text_27 rfl ?_
  refine X_icmp_ge (tgt := 101) d_Model_text_28 (by decide) (fun c_5 => absurd c_5 (by decide)) (fun _ => ?_)
  refine X_iload_n d_Model_text_31 rfl rfl ?_
  refine X_if_eq (tgt := 101) d_Model_text_32 (by decide) (fun _ => ?_) (fun c_6 => absurd c_6 (by decide))
  refine X_iload_n d_Model_text_101 rfl rfl ?_
  refine X_if_eq (tgt := 122) d_Model_text_102 (by decide) (fun _ => ?_) (fun c_7 => absurd c_7 (by decide))
  refine X_aload_n d_Model_text_122 rfl rfl ?_
  refine X_getR (r := 65) fg_Model_25 (show (xup xYf 72 (some (sInts 200))) 59 = some sModel from rfl) rfl d_Model_text_123 ?_
  refine X_iconst (v := 4) d_Model_text_126 rfl ?_
  refine X_aload_n d_Model_text_127 rfl rfl ?_
  refine X_getI (v := nI tc) fg_Model_70 (show (xup xYf 72 (some (sInts 200))) 59 = some sModel from rfl) rfl ((congrFun (xup_s _ _ _) _).trans ((zS_o _ _ _ _ _ _ _ _ (by decide)).trans (h8))) d_Model_text_128 ?_
  refine X_imul d_Model_text_131 ?_
  refine X_iconst (v := 3) d_Model_text_132 rfl ?_
  refine X_iadd d_Model_text_133 ?_
  refine X_aload_n d_Model_text_134 rfl rfl ?_
  refine X_getI (v := nI cs.length) fg_Model_96 (show (xup xYf 72 (some (sInts 200))) 59 = some sModel from rfl) rfl ((congrFun (xup_s _ _ _) _).trans (zS_26 _ _ _ _ _ _ _ _)) d_Model_text_135 ?_
  refine X_astI (show (xup xYf 72 (some (sInts 200))) 65 = some (sInts 24) from rfl) (ixin (ixA (ixM (show (4 : Int32) = nI 4 from rfl) (show nI tc = nI tc from rfl)) (show (3 : Int32) = nI 3 from rfl)) (show 4 * tc + 3 < 24 by omega) (by decide)) d_Model_text_138 ?_
  rw [ixcl (x := (4 * (nI tc)) + 3) (ixA (ixM (show (4 : Int32) = nI 4 from rfl) (show nI tc = nI tc from rfl)) (show (3 : Int32) = nI 3 from rfl)) (show 4 * tc + 3 < 2 ^ 31 by omega)]
  rw [zw65h]
  refine X_aload_n d_Model_text_139 rfl rfl ?_
  refine X_iconst (v := 0) d_Model_text_140 rfl ?_
  refine X_putI fp_Model_55 (show (xup xYf 72 (some (sInts 200))) 59 = some sModel from rfl) rfl d_Model_text_141 ?_
  rw [xw_rec]
  rw [zSs_o _ _ _ _ _ _ _ _ _ (by decide)]
  refine X_iload_n d_Model_text_144 rfl rfl ?_
  refine X_if_ne (tgt := 156) d_Model_text_145 (by decide) (fun c_8 => absurd c_8 (by decide)) (fun _ => ?_)
  refine X_bipush (v := -100) d_Model_text_148 rfl ?_
  refine X_aload_n d_Model_text_150 rfl rfl ?_
  refine X_getI (v := nI (zBl (J 63) n p)) fg_Model_83 (show (xup xYf 72 (some (sInts 200))) 59 = some sModel from rfl) rfl ((congrFun (xup_s _ _ _) _).trans (zS_19 _ _ _ _ _ _ _ _)) d_Model_text_151 ?_
  refine X_isub d_Model_text_154 ?_
  exact X_iret rfl rfl (xle_72 (J := xup (xup (xup (xw (xw J 65 (4 * tc + 0) (nI cs.length)) 65 (4 * tc + 3) (nI cs.length)) 64 (zC (200 * tc) cs (J 64))) 72 H) 59 (zS (xup (J 59) 5 0) (nI (vNx (J 63) n (zBl (J 63) n p))) (nI (zBl (J 63) n p)) tk v1 hm o (nI cs.length))) (I := xup (xup (xw (xw J 65 (4 * tc + 0) (nI cs.length)) 65 (4 * tc + 3) (nI cs.length)) 64 (zC (200 * tc) cs (J 64))) 59 (zS (xup (J 59) 5 0) (nI (vNx (J 63) n (zBl (J 63) n p))) (nI (zBl (J 63) n p)) tk v1 hm o (nI cs.length))) H (fun k hk => by simp only [xup_ap, if_neg hk])) d_Model_text_155
theorem t_T2_0 (l : Launch) (G : xG) {d : Nat} (nn : Nat) (hd : 5 ≤ d) (J : xI) (tc : Nat) (h8 : J 59 8 = nI tc) (htc : tc < 6) (n : Nat) (h5 : J 59 5 = nI n) (hn : n ≤ 160) (hB : ∀ j, j < n → ¬ J 63 j < 0) (p : Nat) (hp : p ≤ n) (cs : List Int32) (hl : cs.length ≤ p) (b t v hm o : Int32) (v1 : Int32) (htk : zTk (J 71) (J 63) n (zBl (J 63) n p) = 3) (hva : zVa (J 71) (J 63) n (zBl (J 63) n p) = v1) (hnv : ¬ v1 = 0) : Qt l G d nn J tc 0 p cs b t v hm o ((-100) - (nI (zBl (J 63) n p))) (xup (xup (xw (xw J 65 (4 * tc + 0) (nI cs.length)) 65 (4 * tc + 3) (nI cs.length)) 64 (zC (200 * tc) cs (J 64))) 59 (zS (xup (J 59) 5 0) (nI (vNx (J 63) n (zBl (J 63) n p))) (nI (zBl (J 63) n p)) 3 v1 hm o (nI cs.length))) := by
  unfold Qt
  refine X_iload_n d_Model_text_26 rfl rfl ?_
  refine X_iconst (v := 3) d_Model_text_27 rfl ?_
  refine X_icmp_ge (tgt := 101) d_Model_text_28 (by decide) (fun c_1 => absurd c_1 (by decide)) (fun _ => ?_)
  refine X_iload_n d_Model_text_31 rfl rfl ?_
  refine X_if_eq (tgt := 101) d_Model_text_32 (by decide) (fun c_2 => absurd c_2 (by decide)) (fun _ => ?_)
  refine X_aload_n d_Model_text_35 rfl rfl ?_
  refine X_knowI (a := 72) (by decide) rfl (fun H => ?_)
  rw [xup_comm (xup J 64 (zC (200 * tc) cs (J 64))) _ _ (show (59 : Nat) ≠ 72 by decide)]
  refine X_callVv (rest := []) (by have q0 := c_Model_next l G nn (d := d - 1) (by omega) J n h5 hn (zC (200 * tc) cs (J 64)) H b t v hm o (nI cs.length) hB p hp; rw [show rRun bBlank (J 63) n 160 p = (zBl (J 63) n p) from rfl, htk, hva] at q0; exact q0) lk_Model_next ml_Model_119 (xm_obj (show (xup xYf 72 (some (sInts 200))) 59 = some sModel from rfl)) rfl rfl (Nat.le_of_ble_eq_true rfl) (xRok (d' := d - 1) (by omega) (by decide)) ⟨Nat.le_refl _, Nat.le_refl _⟩ d_Model_text_36 rfl ?_
  refine X_aload_n d_Model_text_39 rfl rfl ?_
  refine X_getI (v := 3) fg_Model_86 (show (xup xYf 72 (some (sInts 200))) 59 = some sModel from rfl) rfl ((congrFun (xup_s _ _ _) _).trans (zS_20 _ _ _ _ _ _ _ _)) d_Model_text_40 ?_
  refine X_iconst (v := 3) d_Model_text_43 rfl ?_
  refine X_icmp_ne (tgt := 59) d_Model_text_44 (by decide) (fun c_3 => absurd c_3 (by decide)) (fun _ => ?_)
  refine X_aload_n d_Model_text_47 rfl rfl ?_
  refine X_getI (v := v1) fg_Model_89 (show (xup xYf 72 (some (sInts 200))) 59 = some sModel from rfl) rfl ((congrFun (xup_s _ _ _) _).trans (zS_21 _ _ _ _ _ _ _ _)) d_Model_text_48 ?_
  refine X_iload_n d_Model_text_51 rfl rfl ?_
  refine X_icmp_ne (tgt := 59) d_Model_text_52 (by decide) (fun _ => ?_) (fun c_4 => absurd c_4 hnv)
  refine X_iconst (v := 0) d_Model_text_59 rfl ?_
  refine X_istore_n d_Model_text_60 rfl (by decide) [1, 0, 2] (L' := [(0, .ref (xg G 59)), (1, .int 0), (2, .int 0)]) rfl ?_
  refine X_aload_n d_Model_text_61 rfl rfl ?_
  refine X_getR (r := 65) fg_Model_25 (show (xup xYf 72 (some (sInts 200))) 59 = some sModel from rfl) rfl d_Model_text_62 ?_
  refine X_iconst (v := 4) d_Model_text_65 rfl ?_
  refine X_aload_n d_Model_text_66 rfl rfl ?_
  refine X_getI (v := nI tc) fg_Model_70 (show (xup xYf 72 (some (sInts 200))) 59 = some sModel from rfl) rfl ((congrFun (xup_s _ _ _) _).trans ((zS_o _ _ _ _ _ _ _ _ (by decide)).trans (h8))) d_Model_text_67 ?_
  refine X_imul d_Model_text_70 ?_
  refine X_iload_n d_Model_text_71 rfl rfl ?_
  refine X_iadd d_Model_text_72 ?_
  refine X_aload_n d_Model_text_73 rfl rfl ?_
  refine X_getI (v := nI cs.length) fg_Model_96 (show (xup xYf 72 (some (sInts 200))) 59 = some sModel from rfl) rfl ((congrFun (xup_s _ _ _) _).trans (zS_26 _ _ _ _ _ _ _ _)) d_Model_text_74 ?_
  refine X_astI (show (xup xYf 72 (some (sInts 200))) 65 = some (sInts 24) from rfl) (ixin (ixA (ixM (show (4 : Int32) = nI 4 from rfl) (show nI tc = nI tc from rfl)) (show (0 : Int32) = nI 0 from rfl)) (show 4 * tc + 0 < 24 by omega) (by decide)) d_Model_text_77 ?_
  rw [ixcl (x := (4 * (nI tc)) + 0) (ixA (ixM (show (4 : Int32) = nI 4 from rfl) (show nI tc = nI tc from rfl)) (show (0 : Int32) = nI 0 from rfl)) (show 4 * tc + 0 < 2 ^ 31 by omega)]
  rw [zw65h]
  refine X_iload_n d_Model_text_78 rfl rfl ?_
  refine X_if_eq (tgt := 93) d_Model_text_79 (by decide) (fun _ => ?_) (fun c_5 => absurd c_5 (by decide))
  refine X_iconst (v := 0) d_Model_text_93 rfl ?_
  refine X_istore_n d_Model_text_94 rfl (by decide) [1, 0, 2] (L' := [(0, .ref (xg G 59)), (1, .int 0), (2, .int 0)]) rfl ?_
  refine X_iinc d_Model_text_95 rfl (v := 1) rfl (by decide) [1, 2, 0] (L' := [(0, .ref (xg G 59)), (1, .int 0), (2, .int 1)]) rfl ?_
  refine X_goto (tgt := 26) d_Model_text_98 (by decide) ?_
  refine X_iload_n d_Model_text_26 rfl rfl ?_
  refine X_iconst (v := 3) d_Model_text_27 rfl ?_
  refine X_icmp_ge (tgt := 101) d_Model_text_28 (by decide) (fun c_6 => absurd c_6 (by decide)) (fun _ => ?_)
  refine X_iload_n d_Model_text_31 rfl rfl ?_
  refine X_if_eq (tgt := 101) d_Model_text_32 (by decide) (fun _ => ?_) (fun c_7 => absurd c_7 (by decide))
  refine X_iload_n d_Model_text_101 rfl rfl ?_
  refine X_if_eq (tgt := 122) d_Model_text_102 (by decide) (fun _ => ?_) (fun c_8 => absurd c_8 (by decide))
  refine X_aload_n d_Model_text_122 rfl rfl ?_
  refine X_getR (r := 65) fg_Model_25 (show (xup xYf 72 (some (sInts 200))) 59 = some sModel from rfl) rfl d_Model_text_123 ?_
  refine X_iconst (v := 4) d_Model_text_126 rfl ?_
  refine X_aload_n d_Model_text_127 rfl rfl ?_
  refine X_getI (v := nI tc) fg_Model_70 (show (xup xYf 72 (some (sInts 200))) 59 = some sModel from rfl) rfl ((congrFun (xup_s _ _ _) _).trans ((zS_o _ _ _ _ _ _ _ _ (by decide)).trans (h8))) d_Model_text_128 ?_
  refine X_imul d_Model_text_131 ?_
  refine X_iconst (v := 3) d_Model_text_132 rfl ?_
  refine X_iadd d_Model_text_133 ?_
  refine X_aload_n d_Model_text_134 rfl rfl ?_
  refine X_getI (v := nI cs.length) fg_Model_96 (show (xup xYf 72 (some (sInts 200))) 59 = some sModel from rfl) rfl ((congrFun (xup_s _ _ _) _).trans (zS_26 _ _ _ _ _ _ _ _)) d_Model_text_135 ?_
  refine X_astI (show (xup xYf 72 (some (sInts 200))) 65 = some (sInts 24) from rfl) (ixin (ixA (ixM (show (4 : Int32) = nI 4 from rfl) (show nI tc = nI tc from rfl)) (show (3 : Int32) = nI 3 from rfl)) (show 4 * tc + 3 < 24 by omega) (by decide)) d_Model_text_138 ?_
  rw [ixcl (x := (4 * (nI tc)) + 3) (ixA (ixM (show (4 : Int32) = nI 4 from rfl) (show nI tc = nI tc from rfl)) (show (3 : Int32) = nI 3 from rfl)) (show 4 * tc + 3 < 2 ^ 31 by omega)]
  rw [zw65h]
  refine X_aload_n d_Model_text_139 rfl rfl ?_
  refine X_iconst (v := 0) d_Model_text_140 rfl ?_
  refine X_putI fp_Model_55 (show (xup xYf 72 (some (sInts 200))) 59 = some sModel from rfl) rfl d_Model_text_141 ?_
  rw [xw_rec]
  rw [zSs_o _ _ _ _ _ _ _ _ _ (by decide)]
  refine X_iload_n d_Model_text_144 rfl rfl ?_
  refine X_if_ne (tgt := 156) d_Model_text_145 (by decide) (fun c_9 => absurd c_9 (by decide)) (fun _ => ?_)
  refine X_bipush (v := -100) d_Model_text_148 rfl ?_
  refine X_aload_n d_Model_text_150 rfl rfl ?_
  refine X_getI (v := nI (zBl (J 63) n p)) fg_Model_83 (show (xup xYf 72 (some (sInts 200))) 59 = some sModel from rfl) rfl ((congrFun (xup_s _ _ _) _).trans (zS_19 _ _ _ _ _ _ _ _)) d_Model_text_151 ?_
  refine X_isub d_Model_text_154 ?_
  exact X_iret rfl rfl (xle_72 (J := xup (xup (xup (xw (xw J 65 (4 * tc + 0) (nI cs.length)) 65 (4 * tc + 3) (nI cs.length)) 64 (zC (200 * tc) cs (J 64))) 72 H) 59 (zS (xup (J 59) 5 0) (nI (vNx (J 63) n (zBl (J 63) n p))) (nI (zBl (J 63) n p)) 3 v1 hm o (nI cs.length))) (I := xup (xup (xw (xw J 65 (4 * tc + 0) (nI cs.length)) 65 (4 * tc + 3) (nI cs.length)) 64 (zC (200 * tc) cs (J 64))) 59 (zS (xup (J 59) 5 0) (nI (vNx (J 63) n (zBl (J 63) n p))) (nI (zBl (J 63) n p)) 3 v1 hm o (nI cs.length))) H (fun k hk => by simp only [xup_ap, if_neg hk])) d_Model_text_155
theorem t_E_0 (l : Launch) (G : xG) {d : Nat} (nn : Nat) (hd : 5 ≤ d) (J : xI) (tc : Nat) (h8 : J 59 8 = nI tc) (htc : tc < 6) (n : Nat) (h5 : J 59 5 = nI n) (hn : n ≤ 160) (hB : ∀ j, j < n → ¬ J 63 j < 0) (p : Nat) (hp : p ≤ n) (cs : List Int32) (hl : cs.length ≤ p) (b t v hm o : Int32) (htk : zTk (J 71) (J 63) n (zBl (J 63) n p) = 3) (hva : zVa (J 71) (J 63) n (zBl (J 63) n p) = 0) (r : Bool × Nat × List Int32 × Int32 × List Int32) (hr : zE (J 71) (J 63) n (vNx (J 63) n (zBl (J 63) n p)) cs = r) (hr1 : r.1 = false) : Qt l G d nn J tc 0 p cs b t v hm o ((-100) - (nI (zBl (J 63) n r.2.1))) (xup (xup (xw (xw J 65 (4 * tc + 0) (nI cs.length)) 65 (4 * tc + 3) (nI r.2.2.2.2.length)) 64 (zC (200 * tc) r.2.2.2.2 (J 64))) 59 (zS (xup (J 59) 5 0) (nI (vNx (J 63) n (zBl (J 63) n r.2.1))) (nI (zBl (J 63) n r.2.1)) (zTk (J 71) (J 63) n (zBl (J 63) n r.2.1)) (zVa (J 71) (J 63) n (zBl (J 63) n r.2.1)) (nI r.2.2.1.length) r.2.2.2.1 (nI r.2.2.2.2.length))) := by
  unfold Qt
  have hbl := zBl_b (J 63) hp
  have hqn : zBl (J 63) n p < n := Nat.lt_of_not_le (fun z => by have e0 := zTk_0 (wd := J 71) (g := J 63) z; rw [htk] at e0; exact absurd e0 (by decide))
  have hx := vNx_b hB hn hqn
  refine X_iload_n d_Model_text_26 rfl rfl ?_
  refine X_iconst (v := 3) d_Model_text_27 rfl ?_
  refine X_icmp_ge (tgt := 101) d_Model_text_28 (by decide) (fun c_1 => absurd c_1 (by decide)) (fun _ => ?_)
  refine X_iload_n d_Model_text_31 rfl rfl ?_
  refine X_if_eq (tgt := 101) d_Model_text_32 (by decide) (fun c_2 => absurd c_2 (by decide)) (fun _ => ?_)
  refine X_aload_n d_Model_text_35 rfl rfl ?_
  refine X_knowI (a := 72) (by decide) rfl (fun H => ?_)
  rw [xup_comm (xup J 64 (zC (200 * tc) cs (J 64))) _ _ (show (59 : Nat) ≠ 72 by decide)]
  refine X_callVv (rest := []) (by have q0 := c_Model_next l G nn (d := d - 1) (by omega) J n h5 hn (zC (200 * tc) cs (J 64)) H b t v hm o (nI cs.length) hB p hp; rw [show rRun bBlank (J 63) n 160 p = (zBl (J 63) n p) from rfl, htk, hva] at q0; exact q0) lk_Model_next ml_Model_119 (xm_obj (show (xup xYf 72 (some (sInts 200))) 59 = some sModel from rfl)) rfl rfl (Nat.le_of_ble_eq_true rfl) (xRok (d' := d - 1) (by omega) (by decide)) ⟨Nat.le_refl _, Nat.le_refl _⟩ d_Model_text_36 rfl ?_
  refine X_aload_n d_Model_text_39 rfl rfl ?_
  refine X_getI (v := 3) fg_Model_86 (show (xup xYf 72 (some (sInts 200))) 59 = some sModel from rfl) rfl ((congrFun (xup_s _ _ _) _).trans (zS_20 _ _ _ _ _ _ _ _)) d_Model_text_40 ?_
  refine X_iconst (v := 3) d_Model_text_43 rfl ?_
  refine X_icmp_ne (tgt := 59) d_Model_text_44 (by decide) (fun c_3 => absurd c_3 (by decide)) (fun _ => ?_)
  refine X_aload_n d_Model_text_47 rfl rfl ?_
  refine X_getI (v := 0) fg_Model_89 (show (xup xYf 72 (some (sInts 200))) 59 = some sModel from rfl) rfl ((congrFun (xup_s _ _ _) _).trans (zS_21 _ _ _ _ _ _ _ _)) d_Model_text_48 ?_
  refine X_iload_n d_Model_text_51 rfl rfl ?_
  refine X_icmp_ne (tgt := 59) d_Model_text_52 (by decide) (fun c_4 => absurd c_4 (by decide)) (fun _ => ?_)
  refine X_iconst (v := 1) d_Model_text_55 rfl ?_
  refine X_goto (tgt := 60) d_Model_text_56 (by decide) ?_
  refine X_istore_n d_Model_text_60 rfl (by decide) [1, 0, 2] (L' := [(0, .ref (xg G 59)), (1, .int 1), (2, .int 0)]) rfl ?_
  refine X_aload_n d_Model_text_61 rfl rfl ?_
  refine X_getR (r := 65) fg_Model_25 (show (xup xYf 72 (some (sInts 200))) 59 = some sModel from rfl) rfl d_Model_text_62 ?_
  refine X_iconst (v := 4) d_Model_text_65 rfl ?_
  refine X_aload_n d_Model_text_66 rfl rfl ?_
  refine X_getI (v := nI tc) fg_Model_70 (show (xup xYf 72 (some (sInts 200))) 59 = some sModel from rfl) rfl ((congrFun (xup_s _ _ _) _).trans ((zS_o _ _ _ _ _ _ _ _ (by decide)).trans (h8))) d_Model_text_67 ?_
  refine X_imul d_Model_text_70 ?_
  refine X_iload_n d_Model_text_71 rfl rfl ?_
  refine X_iadd d_Model_text_72 ?_
  refine X_aload_n d_Model_text_73 rfl rfl ?_
  refine X_getI (v := nI cs.length) fg_Model_96 (show (xup xYf 72 (some (sInts 200))) 59 = some sModel from rfl) rfl ((congrFun (xup_s _ _ _) _).trans (zS_26 _ _ _ _ _ _ _ _)) d_Model_text_74 ?_
  refine X_astI (show (xup xYf 72 (some (sInts 200))) 65 = some (sInts 24) from rfl) (ixin (ixA (ixM (show (4 : Int32) = nI 4 from rfl) (show nI tc = nI tc from rfl)) (show (0 : Int32) = nI 0 from rfl)) (show 4 * tc + 0 < 24 by omega) (by decide)) d_Model_text_77 ?_
  rw [ixcl (x := (4 * (nI tc)) + 0) (ixA (ixM (show (4 : Int32) = nI 4 from rfl) (show nI tc = nI tc from rfl)) (show (0 : Int32) = nI 0 from rfl)) (show 4 * tc + 0 < 2 ^ 31 by omega)]
  rw [zw65h]
  refine X_iload_n d_Model_text_78 rfl rfl ?_
  refine X_if_eq (tgt := 93) d_Model_text_79 (by decide) (fun c_5 => absurd c_5 (by decide)) (fun _ => ?_)
  refine X_aload_n d_Model_text_82 rfl rfl ?_
  have e59 : (xw J 65 (4 * tc + 0) (nI cs.length)) 59 = J 59 := xw_row _ _ _ (by decide)
  have e63 : (xw J 65 (4 * tc + 0) (nI cs.length)) 63 = J 63 := xw_row _ _ _ (by decide)
  have e64 : (xw J 65 (4 * tc + 0) (nI cs.length)) 64 = J 64 := xw_row _ _ _ (by decide)
  have e71 : (xw J 65 (4 * tc + 0) (nI cs.length)) 71 = J 71 := xw_row _ _ _ (by decide)
  have q0 := c_Model_eRead l G nn (d := d - 1) (by omega) (xw J 65 (4 * tc + 0) (nI cs.length)) tc (by rw [e59]; exact h8) htc n (by rw [e59]; exact h5) hn (by rw [e63]; exact hB) (vNx (J 63) n (zBl (J 63) n p)) hx.2 cs (by omega) (nI (zBl (J 63) n p)) 3 0 hm o H r (by rw [e63, e71]; exact hr)
  rw [e59, e63, e64, e71, hr1, show xb false = 0 from rfl] at q0
  refine X_callV (v := .int 0) (rest := []) q0 lk_Model_eRead ml_Model_132 (xm_obj (show xYf 59 = some sModel from rfl)) rfl rfl (Nat.le_of_ble_eq_true rfl) (xRok (d' := d - 1) (by omega) (by decide)) ⟨Nat.le_refl _, Nat.le_refl _⟩ d_Model_text_83 rfl ?_
  refine X_if_eq (tgt := 93) d_Model_text_86 (by decide) (fun _ => ?_) (fun c_6 => absurd c_6 (by decide))
  refine X_iconst (v := 0) d_Model_text_93 rfl ?_
  refine X_istore_n d_Model_text_94 rfl (by decide) [1, 0, 2] (L' := [(0, .ref (xg G 59)), (1, .int 0), (2, .int 0)]) rfl ?_
  refine X_iinc d_Model_text_95 rfl (v := 1) rfl (by decide) [1, 2, 0] (L' := [(0, .ref (xg G 59)), (1, .int 0), (2, .int 1)]) rfl ?_
  refine X_goto (tgt := 26) d_Model_text_98 (by decide) ?_
  refine X_iload_n d_Model_text_26 rfl rfl ?_
  refine X_iconst (v := 3) d_Model_text_27 rfl ?_
  refine X_icmp_ge (tgt := 101) d_Model_text_28 (by decide) (fun c_7 => absurd c_7 (by decide)) (fun _ => ?_)
  refine X_iload_n d_Model_text_31 rfl rfl ?_
  refine X_if_eq (tgt := 101) d_Model_text_32 (by decide) (fun _ => ?_) (fun c_8 => absurd c_8 (by decide))
  refine X_iload_n d_Model_text_101 rfl rfl ?_
  refine X_if_eq (tgt := 122) d_Model_text_102 (by decide) (fun _ => ?_) (fun c_9 => absurd c_9 (by decide))
  refine X_aload_n d_Model_text_122 rfl rfl ?_
  refine X_getR (r := 65) fg_Model_25 (show xYf 59 = some sModel from rfl) rfl d_Model_text_123 ?_
  refine X_iconst (v := 4) d_Model_text_126 rfl ?_
  refine X_aload_n d_Model_text_127 rfl rfl ?_
  refine X_getI (v := nI tc) fg_Model_70 (show xYf 59 = some sModel from rfl) rfl ((congrFun (xup_s _ _ _) _).trans ((zS_o _ _ _ _ _ _ _ _ (by decide)).trans (h8))) d_Model_text_128 ?_
  refine X_imul d_Model_text_131 ?_
  refine X_iconst (v := 3) d_Model_text_132 rfl ?_
  refine X_iadd d_Model_text_133 ?_
  refine X_aload_n d_Model_text_134 rfl rfl ?_
  refine X_getI (v := nI r.2.2.2.2.length) fg_Model_96 (show xYf 59 = some sModel from rfl) rfl ((congrFun (xup_s _ _ _) _).trans (zS_26 _ _ _ _ _ _ _ _)) d_Model_text_135 ?_
  refine X_astI (show xYf 65 = some (sInts 24) from rfl) (ixin (ixA (ixM (show (4 : Int32) = nI 4 from rfl) (show nI tc = nI tc from rfl)) (show (3 : Int32) = nI 3 from rfl)) (show 4 * tc + 3 < 24 by omega) (by decide)) d_Model_text_138 ?_
  rw [ixcl (x := (4 * (nI tc)) + 3) (ixA (ixM (show (4 : Int32) = nI 4 from rfl) (show nI tc = nI tc from rfl)) (show (3 : Int32) = nI 3 from rfl)) (show 4 * tc + 3 < 2 ^ 31 by omega)]
  rw [zw65]
  refine X_aload_n d_Model_text_139 rfl rfl ?_
  refine X_iconst (v := 0) d_Model_text_140 rfl ?_
  refine X_putI fp_Model_55 (show xYf 59 = some sModel from rfl) rfl d_Model_text_141 ?_
  rw [xw_rec]
  rw [zSs_o _ _ _ _ _ _ _ _ _ (by decide)]
  refine X_iload_n d_Model_text_144 rfl rfl ?_
  refine X_if_ne (tgt := 156) d_Model_text_145 (by decide) (fun c_10 => absurd c_10 (by decide)) (fun _ => ?_)
  refine X_bipush (v := -100) d_Model_text_148 rfl ?_
  refine X_aload_n d_Model_text_150 rfl rfl ?_
  refine X_getI (v := nI (zBl (J 63) n r.2.1)) fg_Model_83 (show xYf 59 = some sModel from rfl) rfl ((congrFun (xup_s _ _ _) _).trans (zS_19 _ _ _ _ _ _ _ _)) d_Model_text_151 ?_
  refine X_isub d_Model_text_154 ?_
  exact X_iret rfl rfl (xle_rf _) d_Model_text_155
theorem t_G_0 (l : Launch) (G : xG) {d : Nat} (nn : Nat) (hd : 5 ≤ d) (J : xI) (tc : Nat) (h8 : J 59 8 = nI tc) (htc : tc < 6) (n : Nat) (h5 : J 59 5 = nI n) (hn : n ≤ 160) (hB : ∀ j, j < n → ¬ J 63 j < 0) (p : Nat) (hp : p ≤ n) (cs : List Int32) (hl : cs.length ≤ p) (b t v hm o : Int32) (htk : zTk (J 71) (J 63) n (zBl (J 63) n p) = 3) (hva : zVa (J 71) (J 63) n (zBl (J 63) n p) = 0) (r : Bool × Nat × List Int32 × Int32 × List Int32) (hr : zE (J 71) (J 63) n (vNx (J 63) n (zBl (J 63) n p)) cs = r) (hr1 : r.1 = true) (ans : Int32) (J' : xI) (ih : Qt l G d nn (xw J 65 (4 * tc + 0) (nI cs.length)) tc 1 (vNx (J 63) n (zBl (J 63) n r.2.1)) r.2.2.2.2 (nI (zBl (J 63) n r.2.1)) (zTk (J 71) (J 63) n (zBl (J 63) n r.2.1)) (zVa (J 71) (J 63) n (zBl (J 63) n r.2.1)) (nI r.2.2.1.length) r.2.2.2.1 ans J') : Qt l G d nn J tc 0 p cs b t v hm o ans J' := by
  unfold Qt
  have hbl := zBl_b (J 63) hp
  have hqn : zBl (J 63) n p < n := Nat.lt_of_not_le (fun z => by have e0 := zTk_0 (wd := J 71) (g := J 63) z; rw [htk] at e0; exact absurd e0 (by decide))
  have hx := vNx_b hB hn hqn
  refine X_iload_n d_Model_text_26 rfl rfl ?_
  refine X_iconst (v := 3) d_Model_text_27 rfl ?_
  refine X_icmp_ge (tgt := 101) d_Model_text_28 (by decide) (fun c_1 => absurd c_1 (by decide)) (fun _ => ?_)
  refine X_iload_n d_Model_text_31 rfl rfl ?_
  refine X_if_eq (tgt := 101) d_Model_text_32 (by decide) (fun c_2 => absurd c_2 (by decide)) (fun _ => ?_)
  refine X_aload_n d_Model_text_35 rfl rfl ?_
  refine X_knowI (a := 72) (by decide) rfl (fun H => ?_)
  rw [xup_comm (xup J 64 (zC (200 * tc) cs (J 64))) _ _ (show (59 : Nat) ≠ 72 by decide)]
  refine X_callVv (rest := []) (by have q0 := c_Model_next l G nn (d := d - 1) (by omega) J n h5 hn (zC (200 * tc) cs (J 64)) H b t v hm o (nI cs.length) hB p hp; rw [show rRun bBlank (J 63) n 160 p = (zBl (J 63) n p) from rfl, htk, hva] at q0; exact q0) lk_Model_next ml_Model_119 (xm_obj (show (xup xYf 72 (some (sInts 200))) 59 = some sModel from rfl)) rfl rfl (Nat.le_of_ble_eq_true rfl) (xRok (d' := d - 1) (by omega) (by decide)) ⟨Nat.le_refl _, Nat.le_refl _⟩ d_Model_text_36 rfl ?_
  refine X_aload_n d_Model_text_39 rfl rfl ?_
  refine X_getI (v := 3) fg_Model_86 (show (xup xYf 72 (some (sInts 200))) 59 = some sModel from rfl) rfl ((congrFun (xup_s _ _ _) _).trans (zS_20 _ _ _ _ _ _ _ _)) d_Model_text_40 ?_
  refine X_iconst (v := 3) d_Model_text_43 rfl ?_
  refine X_icmp_ne (tgt := 59) d_Model_text_44 (by decide) (fun c_3 => absurd c_3 (by decide)) (fun _ => ?_)
  refine X_aload_n d_Model_text_47 rfl rfl ?_
  refine X_getI (v := 0) fg_Model_89 (show (xup xYf 72 (some (sInts 200))) 59 = some sModel from rfl) rfl ((congrFun (xup_s _ _ _) _).trans (zS_21 _ _ _ _ _ _ _ _)) d_Model_text_48 ?_
  refine X_iload_n d_Model_text_51 rfl rfl ?_
  refine X_icmp_ne (tgt := 59) d_Model_text_52 (by decide) (fun c_4 => absurd c_4 (by decide)) (fun _ => ?_)
  refine X_iconst (v := 1) d_Model_text_55 rfl ?_
  refine X_goto (tgt := 60) d_Model_text_56 (by decide) ?_
  refine X_istore_n d_Model_text_60 rfl (by decide) [1, 0, 2] (L' := [(0, .ref (xg G 59)), (1, .int 1), (2, .int 0)]) rfl ?_
  refine X_aload_n d_Model_text_61 rfl rfl ?_
  refine X_getR (r := 65) fg_Model_25 (show (xup xYf 72 (some (sInts 200))) 59 = some sModel from rfl) rfl d_Model_text_62 ?_
  refine X_iconst (v := 4) d_Model_text_65 rfl ?_
  refine X_aload_n d_Model_text_66 rfl rfl ?_
  refine X_getI (v := nI tc) fg_Model_70 (show (xup xYf 72 (some (sInts 200))) 59 = some sModel from rfl) rfl ((congrFun (xup_s _ _ _) _).trans ((zS_o _ _ _ _ _ _ _ _ (by decide)).trans (h8))) d_Model_text_67 ?_
  refine X_imul d_Model_text_70 ?_
  refine X_iload_n d_Model_text_71 rfl rfl ?_
  refine X_iadd d_Model_text_72 ?_
  refine X_aload_n d_Model_text_73 rfl rfl ?_
  refine X_getI (v := nI cs.length) fg_Model_96 (show (xup xYf 72 (some (sInts 200))) 59 = some sModel from rfl) rfl ((congrFun (xup_s _ _ _) _).trans (zS_26 _ _ _ _ _ _ _ _)) d_Model_text_74 ?_
  refine X_astI (show (xup xYf 72 (some (sInts 200))) 65 = some (sInts 24) from rfl) (ixin (ixA (ixM (show (4 : Int32) = nI 4 from rfl) (show nI tc = nI tc from rfl)) (show (0 : Int32) = nI 0 from rfl)) (show 4 * tc + 0 < 24 by omega) (by decide)) d_Model_text_77 ?_
  rw [ixcl (x := (4 * (nI tc)) + 0) (ixA (ixM (show (4 : Int32) = nI 4 from rfl) (show nI tc = nI tc from rfl)) (show (0 : Int32) = nI 0 from rfl)) (show 4 * tc + 0 < 2 ^ 31 by omega)]
  rw [zw65h]
  refine X_iload_n d_Model_text_78 rfl rfl ?_
  refine X_if_eq (tgt := 93) d_Model_text_79 (by decide) (fun c_5 => absurd c_5 (by decide)) (fun _ => ?_)
  refine X_aload_n d_Model_text_82 rfl rfl ?_
  have e59 : (xw J 65 (4 * tc + 0) (nI cs.length)) 59 = J 59 := xw_row _ _ _ (by decide)
  have e63 : (xw J 65 (4 * tc + 0) (nI cs.length)) 63 = J 63 := xw_row _ _ _ (by decide)
  have e64 : (xw J 65 (4 * tc + 0) (nI cs.length)) 64 = J 64 := xw_row _ _ _ (by decide)
  have e71 : (xw J 65 (4 * tc + 0) (nI cs.length)) 71 = J 71 := xw_row _ _ _ (by decide)
  have q0 := c_Model_eRead l G nn (d := d - 1) (by omega) (xw J 65 (4 * tc + 0) (nI cs.length)) tc (by rw [e59]; exact h8) htc n (by rw [e59]; exact h5) hn (by rw [e63]; exact hB) (vNx (J 63) n (zBl (J 63) n p)) hx.2 cs (by omega) (nI (zBl (J 63) n p)) 3 0 hm o H r (by rw [e63, e71]; exact hr)
  rw [e59, e63, e64, e71, hr1, show xb true = 1 from rfl] at q0
  refine X_callV (v := .int 1) (rest := []) q0 lk_Model_eRead ml_Model_132 (xm_obj (show xYf 59 = some sModel from rfl)) rfl rfl (Nat.le_of_ble_eq_true rfl) (xRok (d' := d - 1) (by omega) (by decide)) ⟨Nat.le_refl _, Nat.le_refl _⟩ d_Model_text_83 rfl ?_
  refine X_if_eq (tgt := 93) d_Model_text_86 (by decide) (fun c_6 => absurd c_6 (by decide)) (fun _ => ?_)
  refine X_iconst (v := 1) d_Model_text_89 rfl ?_
  refine X_goto (tgt := 94) d_Model_text_90 (by decide) ?_
  refine X_istore_n d_Model_text_94 rfl (by decide) [1, 0, 2] (L' := [(0, .ref (xg G 59)), (1, .int 1), (2, .int 0)]) rfl ?_
  refine X_iinc d_Model_text_95 rfl (v := 1) rfl (by decide) [1, 2, 0] (L' := [(0, .ref (xg G 59)), (1, .int 1), (2, .int 1)]) rfl ?_
  refine X_goto (tgt := 26) d_Model_text_98 (by decide) ?_
  unfold Qt at ih
  rw [e59, e64] at ih
  exact ih
theorem t_T1_1 (l : Launch) (G : xG) {d : Nat} (nn : Nat) (hd : 5 ≤ d) (J : xI) (tc : Nat) (h8 : J 59 8 = nI tc) (htc : tc < 6) (n : Nat) (h5 : J 59 5 = nI n) (hn : n ≤ 160) (hB : ∀ j, j < n → ¬ J 63 j < 0) (p : Nat) (hp : p ≤ n) (cs : List Int32) (hl : cs.length ≤ p) (b t v hm o : Int32) (tk v1 : Int32) (htk : zTk (J 71) (J 63) n (zBl (J 63) n p) = tk) (hva : zVa (J 71) (J 63) n (zBl (J 63) n p) = v1) (hn3 : ¬ tk = 3) : Qt l G d nn J tc 1 p cs b t v hm o ((-100) - (nI (zBl (J 63) n p))) (xup (xup (xw (xw J 65 (4 * tc + 1) (nI cs.length)) 65 (4 * tc + 3) (nI cs.length)) 64 (zC (200 * tc) cs (J 64))) 59 (zS (xup (J 59) 5 0) (nI (vNx (J 63) n (zBl (J 63) n p))) (nI (zBl (J 63) n p)) tk v1 hm o (nI cs.length))) := by
  unfold Qt
  refine X_iload_n d_Model_text_26 rfl rfl ?_
  refine X_iconst (v := 3) d_Model_text_27 rfl ?_
  refine X_icmp_ge (tgt := 101) d_Model_text_28 (by decide) (fun c_1 => absurd c_1 (by decide)) (fun _ => ?_)
  refine X_iload_n d_Model_text_31 rfl rfl ?_
  refine X_if_eq (tgt := 101) d_Model_text_32 (by decide) (fun c_2 => absurd c_2 (by decide)) (fun _ => ?_)
  refine X_aload_n d_Model_text_35 rfl rfl ?_
  refine X_knowI (a := 72) (by decide) rfl (fun H => ?_)
  rw [xup_comm (xup J 64 (zC (200 * tc) cs (J 64))) _ _ (show (59 : Nat) ≠ 72 by decide)]
  refine X_callVv (rest := []) (by have q0 := c_Model_next l G nn (d := d - 1) (by omega) J n h5 hn (zC (200 * tc) cs (J 64)) H b t v hm o (nI cs.length) hB p hp; rw [show rRun bBlank (J 63) n 160 p = (zBl (J 63) n p) from rfl, htk, hva] at q0; exact q0) lk_Model_next ml_Model_119 (xm_obj (show (xup xYf 72 (some (sInts 200))) 59 = some sModel from rfl)) rfl rfl (Nat.le_of_ble_eq_true rfl) (xRok (d' := d - 1) (by omega) (by decide)) ⟨Nat.le_refl _, Nat.le_refl _⟩ d_Model_text_36 rfl ?_
  refine X_aload_n d_Model_text_39 rfl rfl ?_
  refine X_getI (v := tk) fg_Model_86 (show (xup xYf 72 (some (sInts 200))) 59 = some sModel from rfl) rfl ((congrFun (xup_s _ _ _) _).trans (zS_20 _ _ _ _ _ _ _ _)) d_Model_text_40 ?_
  refine X_iconst (v := 3) d_Model_text_43 rfl ?_
  refine X_icmp_ne (tgt := 59) d_Model_text_44 (by decide) (fun _ => ?_) (fun c_3 => absurd c_3 hn3)
  refine X_iconst (v := 0) d_Model_text_59 rfl ?_
  refine X_istore_n d_Model_text_60 rfl (by decide) [1, 0, 2] (L' := [(0, .ref (xg G 59)), (1, .int 0), (2, .int 1)]) rfl ?_
  refine X_aload_n d_Model_text_61 rfl rfl ?_
  refine X_getR (r := 65) fg_Model_25 (show (xup xYf 72 (some (sInts 200))) 59 = some sModel from rfl) rfl d_Model_text_62 ?_
  refine X_iconst (v := 4) d_Model_text_65 rfl ?_
  refine X_aload_n d_Model_text_66 rfl rfl ?_
  refine X_getI (v := nI tc) fg_Model_70 (show (xup xYf 72 (some (sInts 200))) 59 = some sModel from rfl) rfl ((congrFun (xup_s _ _ _) _).trans ((zS_o _ _ _ _ _ _ _ _ (by decide)).trans (h8))) d_Model_text_67 ?_
  refine X_imul d_Model_text_70 ?_
  refine X_iload_n d_Model_text_71 rfl rfl ?_
  refine X_iadd d_Model_text_72 ?_
  refine X_aload_n d_Model_text_73 rfl rfl ?_
  refine X_getI (v := nI cs.length) fg_Model_96 (show (xup xYf 72 (some (sInts 200))) 59 = some sModel from rfl) rfl ((congrFun (xup_s _ _ _) _).trans (zS_26 _ _ _ _ _ _ _ _)) d_Model_text_74 ?_
  refine X_astI (show (xup xYf 72 (some (sInts 200))) 65 = some (sInts 24) from rfl) (ixin (ixA (ixM (show (4 : Int32) = nI 4 from rfl) (show nI tc = nI tc from rfl)) (show (1 : Int32) = nI 1 from rfl)) (show 4 * tc + 1 < 24 by omega) (by decide)) d_Model_text_77 ?_
  rw [ixcl (x := (4 * (nI tc)) + 1) (ixA (ixM (show (4 : Int32) = nI 4 from rfl) (show nI tc = nI tc from rfl)) (show (1 : Int32) = nI 1 from rfl)) (show 4 * tc + 1 < 2 ^ 31 by omega)]
  rw [zw65h]
  refine X_iload_n d_Model_text_78 rfl rfl ?_
  refine X_if_eq (tgt := 93) d_Model_text_79 (by decide) (fun _ => ?_) (fun c_4 => absurd c_4 (by decide))
  refine X_iconst (v := 0) d_Model_text_93 rfl ?_
  refine X_istore_n d_Model_text_94 rfl (by decide) [1, 0, 2] (L' := [(0, .ref (xg G 59)), (1, .int 0), (2, .int 1)]) rfl ?_
  refine X_iinc d_Model_text_95 rfl (v := 2) rfl (by decide) [1, 2, 0] (L' := [(0, .ref (xg G 59)), (1, .int 0), (2, .int 2)]) rfl ?_
  refine X_goto (tgt := 26) d_Model_text_98 (by decide) ?_
  refine X_iload_n d_Model_text_26 rfl rfl ?_
  refine X_iconst (v := 3) d_Model_text_27 rfl ?_
  refine X_icmp_ge (tgt := 101) d_Model_text_28 (by decide) (fun c_5 => absurd c_5 (by decide)) (fun _ => ?_)
  refine X_iload_n d_Model_text_31 rfl rfl ?_
  refine X_if_eq (tgt := 101) d_Model_text_32 (by decide) (fun _ => ?_) (fun c_6 => absurd c_6 (by decide))
  refine X_iload_n d_Model_text_101 rfl rfl ?_
  refine X_if_eq (tgt := 122) d_Model_text_102 (by decide) (fun _ => ?_) (fun c_7 => absurd c_7 (by decide))
  refine X_aload_n d_Model_text_122 rfl rfl ?_
  refine X_getR (r := 65) fg_Model_25 (show (xup xYf 72 (some (sInts 200))) 59 = some sModel from rfl) rfl d_Model_text_123 ?_
  refine X_iconst (v := 4) d_Model_text_126 rfl ?_
  refine X_aload_n d_Model_text_127 rfl rfl ?_
  refine X_getI (v := nI tc) fg_Model_70 (show (xup xYf 72 (some (sInts 200))) 59 = some sModel from rfl) rfl ((congrFun (xup_s _ _ _) _).trans ((zS_o _ _ _ _ _ _ _ _ (by decide)).trans (h8))) d_Model_text_128 ?_
  refine X_imul d_Model_text_131 ?_
  refine X_iconst (v := 3) d_Model_text_132 rfl ?_
  refine X_iadd d_Model_text_133 ?_
  refine X_aload_n d_Model_text_134 rfl rfl ?_
  refine X_getI (v := nI cs.length) fg_Model_96 (show (xup xYf 72 (some (sInts 200))) 59 = some sModel from rfl) rfl ((congrFun (xup_s _ _ _) _).trans (zS_26 _ _ _ _ _ _ _ _)) d_Model_text_135 ?_
  refine X_astI (show (xup xYf 72 (some (sInts 200))) 65 = some (sInts 24) from rfl) (ixin (ixA (ixM (show (4 : Int32) = nI 4 from rfl) (show nI tc = nI tc from rfl)) (show (3 : Int32) = nI 3 from rfl)) (show 4 * tc + 3 < 24 by omega) (by decide)) d_Model_text_138 ?_
  rw [ixcl (x := (4 * (nI tc)) + 3) (ixA (ixM (show (4 : Int32) = nI 4 from rfl) (show nI tc = nI tc from rfl)) (show (3 : Int32) = nI 3 from rfl)) (show 4 * tc + 3 < 2 ^ 31 by omega)]
  rw [zw65h]
  refine X_aload_n d_Model_text_139 rfl rfl ?_
  refine X_iconst (v := 0) d_Model_text_140 rfl ?_
  refine X_putI fp_Model_55 (show (xup xYf 72 (some (sInts 200))) 59 = some sModel from rfl) rfl d_Model_text_141 ?_
  rw [xw_rec]
  rw [zSs_o _ _ _ _ _ _ _ _ _ (by decide)]
  refine X_iload_n d_Model_text_144 rfl rfl ?_
  refine X_if_ne (tgt := 156) d_Model_text_145 (by decide) (fun c_8 => absurd c_8 (by decide)) (fun _ => ?_)
  refine X_bipush (v := -100) d_Model_text_148 rfl ?_
  refine X_aload_n d_Model_text_150 rfl rfl ?_
  refine X_getI (v := nI (zBl (J 63) n p)) fg_Model_83 (show (xup xYf 72 (some (sInts 200))) 59 = some sModel from rfl) rfl ((congrFun (xup_s _ _ _) _).trans (zS_19 _ _ _ _ _ _ _ _)) d_Model_text_151 ?_
  refine X_isub d_Model_text_154 ?_
  exact X_iret rfl rfl (xle_72 (J := xup (xup (xup (xw (xw J 65 (4 * tc + 1) (nI cs.length)) 65 (4 * tc + 3) (nI cs.length)) 64 (zC (200 * tc) cs (J 64))) 72 H) 59 (zS (xup (J 59) 5 0) (nI (vNx (J 63) n (zBl (J 63) n p))) (nI (zBl (J 63) n p)) tk v1 hm o (nI cs.length))) (I := xup (xup (xw (xw J 65 (4 * tc + 1) (nI cs.length)) 65 (4 * tc + 3) (nI cs.length)) 64 (zC (200 * tc) cs (J 64))) 59 (zS (xup (J 59) 5 0) (nI (vNx (J 63) n (zBl (J 63) n p))) (nI (zBl (J 63) n p)) tk v1 hm o (nI cs.length))) H (fun k hk => by simp only [xup_ap, if_neg hk])) d_Model_text_155
theorem t_T2_1 (l : Launch) (G : xG) {d : Nat} (nn : Nat) (hd : 5 ≤ d) (J : xI) (tc : Nat) (h8 : J 59 8 = nI tc) (htc : tc < 6) (n : Nat) (h5 : J 59 5 = nI n) (hn : n ≤ 160) (hB : ∀ j, j < n → ¬ J 63 j < 0) (p : Nat) (hp : p ≤ n) (cs : List Int32) (hl : cs.length ≤ p) (b t v hm o : Int32) (v1 : Int32) (htk : zTk (J 71) (J 63) n (zBl (J 63) n p) = 3) (hva : zVa (J 71) (J 63) n (zBl (J 63) n p) = v1) (hnv : ¬ v1 = 1) : Qt l G d nn J tc 1 p cs b t v hm o ((-100) - (nI (zBl (J 63) n p))) (xup (xup (xw (xw J 65 (4 * tc + 1) (nI cs.length)) 65 (4 * tc + 3) (nI cs.length)) 64 (zC (200 * tc) cs (J 64))) 59 (zS (xup (J 59) 5 0) (nI (vNx (J 63) n (zBl (J 63) n p))) (nI (zBl (J 63) n p)) 3 v1 hm o (nI cs.length))) := by
  unfold Qt
  refine X_iload_n d_Model_text_26 rfl rfl ?_
  refine X_iconst (v := 3) d_Model_text_27 rfl ?_
  refine X_icmp_ge (tgt := 101) d_Model_text_28 (by decide) (fun c_1 => absurd c_1 (by decide)) (fun _ => ?_)
  refine X_iload_n d_Model_text_31 rfl rfl ?_
  refine X_if_eq (tgt := 101) d_Model_text_32 (by decide) (fun c_2 => absurd c_2 (by decide)) (fun _ => ?_)
  refine X_aload_n d_Model_text_35 rfl rfl ?_
  refine X_knowI (a := 72) (by decide) rfl (fun H => ?_)
  rw [xup_comm (xup J 64 (zC (200 * tc) cs (J 64))) _ _ (show (59 : Nat) ≠ 72 by decide)]
  refine X_callVv (rest := []) (by have q0 := c_Model_next l G nn (d := d - 1) (by omega) J n h5 hn (zC (200 * tc) cs (J 64)) H b t v hm o (nI cs.length) hB p hp; rw [show rRun bBlank (J 63) n 160 p = (zBl (J 63) n p) from rfl, htk, hva] at q0; exact q0) lk_Model_next ml_Model_119 (xm_obj (show (xup xYf 72 (some (sInts 200))) 59 = some sModel from rfl)) rfl rfl (Nat.le_of_ble_eq_true rfl) (xRok (d' := d - 1) (by omega) (by decide)) ⟨Nat.le_refl _, Nat.le_refl _⟩ d_Model_text_36 rfl ?_
  refine X_aload_n d_Model_text_39 rfl rfl ?_
  refine X_getI (v := 3) fg_Model_86 (show (xup xYf 72 (some (sInts 200))) 59 = some sModel from rfl) rfl ((congrFun (xup_s _ _ _) _).trans (zS_20 _ _ _ _ _ _ _ _)) d_Model_text_40 ?_
  refine X_iconst (v := 3) d_Model_text_43 rfl ?_
  refine X_icmp_ne (tgt := 59) d_Model_text_44 (by decide) (fun c_3 => absurd c_3 (by decide)) (fun _ => ?_)
  refine X_aload_n d_Model_text_47 rfl rfl ?_
  refine X_getI (v := v1) fg_Model_89 (show (xup xYf 72 (some (sInts 200))) 59 = some sModel from rfl) rfl ((congrFun (xup_s _ _ _) _).trans (zS_21 _ _ _ _ _ _ _ _)) d_Model_text_48 ?_
  refine X_iload_n d_Model_text_51 rfl rfl ?_
  refine X_icmp_ne (tgt := 59) d_Model_text_52 (by decide) (fun _ => ?_) (fun c_4 => absurd c_4 hnv)
  refine X_iconst (v := 0) d_Model_text_59 rfl ?_
  refine X_istore_n d_Model_text_60 rfl (by decide) [1, 0, 2] (L' := [(0, .ref (xg G 59)), (1, .int 0), (2, .int 1)]) rfl ?_
  refine X_aload_n d_Model_text_61 rfl rfl ?_
  refine X_getR (r := 65) fg_Model_25 (show (xup xYf 72 (some (sInts 200))) 59 = some sModel from rfl) rfl d_Model_text_62 ?_
  refine X_iconst (v := 4) d_Model_text_65 rfl ?_
  refine X_aload_n d_Model_text_66 rfl rfl ?_
  refine X_getI (v := nI tc) fg_Model_70 (show (xup xYf 72 (some (sInts 200))) 59 = some sModel from rfl) rfl ((congrFun (xup_s _ _ _) _).trans ((zS_o _ _ _ _ _ _ _ _ (by decide)).trans (h8))) d_Model_text_67 ?_
  refine X_imul d_Model_text_70 ?_
  refine X_iload_n d_Model_text_71 rfl rfl ?_
  refine X_iadd d_Model_text_72 ?_
  refine X_aload_n d_Model_text_73 rfl rfl ?_
  refine X_getI (v := nI cs.length) fg_Model_96 (show (xup xYf 72 (some (sInts 200))) 59 = some sModel from rfl) rfl ((congrFun (xup_s _ _ _) _).trans (zS_26 _ _ _ _ _ _ _ _)) d_Model_text_74 ?_
  refine X_astI (show (xup xYf 72 (some (sInts 200))) 65 = some (sInts 24) from rfl) (ixin (ixA (ixM (show (4 : Int32) = nI 4 from rfl) (show nI tc = nI tc from rfl)) (show (1 : Int32) = nI 1 from rfl)) (show 4 * tc + 1 < 24 by omega) (by decide)) d_Model_text_77 ?_
  rw [ixcl (x := (4 * (nI tc)) + 1) (ixA (ixM (show (4 : Int32) = nI 4 from rfl) (show nI tc = nI tc from rfl)) (show (1 : Int32) = nI 1 from rfl)) (show 4 * tc + 1 < 2 ^ 31 by omega)]
  rw [zw65h]
  refine X_iload_n d_Model_text_78 rfl rfl ?_
  refine X_if_eq (tgt := 93) d_Model_text_79 (by decide) (fun _ => ?_) (fun c_5 => absurd c_5 (by decide))
  refine X_iconst (v := 0) d_Model_text_93 rfl ?_
  refine X_istore_n d_Model_text_94 rfl (by decide) [1, 0, 2] (L' := [(0, .ref (xg G 59)), (1, .int 0), (2, .int 1)]) rfl ?_
  refine X_iinc d_Model_text_95 rfl (v := 2) rfl (by decide) [1, 2, 0] (L' := [(0, .ref (xg G 59)), (1, .int 0), (2, .int 2)]) rfl ?_
  refine X_goto (tgt := 26) d_Model_text_98 (by decide) ?_
  refine X_iload_n d_Model_text_26 rfl rfl ?_
  refine X_iconst (v := 3) d_Model_text_27 rfl ?_
  refine X_icmp_ge (tgt := 101) d_Model_text_28 (by decide) (fun c_6 => absurd c_6 (by decide)) (fun _ => ?_)
  refine X_iload_n d_Model_text_31 rfl rfl ?_
  refine X_if_eq (tgt := 101) d_Model_text_32 (by decide) (fun _ => ?_) (fun c_7 => absurd c_7 (by decide))
  refine X_iload_n d_Model_text_101 rfl rfl ?_
  refine X_if_eq (tgt := 122) d_Model_text_102 (by decide) (fun _ => ?_) (fun c_8 => absurd c_8 (by decide))
  refine X_aload_n d_Model_text_122 rfl rfl ?_
  refine X_getR (r := 65) fg_Model_25 (show (xup xYf 72 (some (sInts 200))) 59 = some sModel from rfl) rfl d_Model_text_123 ?_
  refine X_iconst (v := 4) d_Model_text_126 rfl ?_
  refine X_aload_n d_Model_text_127 rfl rfl ?_
  refine X_getI (v := nI tc) fg_Model_70 (show (xup xYf 72 (some (sInts 200))) 59 = some sModel from rfl) rfl ((congrFun (xup_s _ _ _) _).trans ((zS_o _ _ _ _ _ _ _ _ (by decide)).trans (h8))) d_Model_text_128 ?_
  refine X_imul d_Model_text_131 ?_
  refine X_iconst (v := 3) d_Model_text_132 rfl ?_
  refine X_iadd d_Model_text_133 ?_
  refine X_aload_n d_Model_text_134 rfl rfl ?_
  refine X_getI (v := nI cs.length) fg_Model_96 (show (xup xYf 72 (some (sInts 200))) 59 = some sModel from rfl) rfl ((congrFun (xup_s _ _ _) _).trans (zS_26 _ _ _ _ _ _ _ _)) d_Model_text_135 ?_
  refine X_astI (show (xup xYf 72 (some (sInts 200))) 65 = some (sInts 24) from rfl) (ixin (ixA (ixM (show (4 : Int32) = nI 4 from rfl) (show nI tc = nI tc from rfl)) (show (3 : Int32) = nI 3 from rfl)) (show 4 * tc + 3 < 24 by omega) (by decide)) d_Model_text_138 ?_
  rw [ixcl (x := (4 * (nI tc)) + 3) (ixA (ixM (show (4 : Int32) = nI 4 from rfl) (show nI tc = nI tc from rfl)) (show (3 : Int32) = nI 3 from rfl)) (show 4 * tc + 3 < 2 ^ 31 by omega)]
  rw [zw65h]
  refine X_aload_n d_Model_text_139 rfl rfl ?_
  refine X_iconst (v := 0) d_Model_text_140 rfl ?_
  refine X_putI fp_Model_55 (show (xup xYf 72 (some (sInts 200))) 59 = some sModel from rfl) rfl d_Model_text_141 ?_
  rw [xw_rec]
  rw [zSs_o _ _ _ _ _ _ _ _ _ (by decide)]
  refine X_iload_n d_Model_text_144 rfl rfl ?_
  refine X_if_ne (tgt := 156) d_Model_text_145 (by decide) (fun c_9 => absurd c_9 (by decide)) (fun _ => ?_)
  refine X_bipush (v := -100) d_Model_text_148 rfl ?_
  refine X_aload_n d_Model_text_150 rfl rfl ?_
  refine X_getI (v := nI (zBl (J 63) n p)) fg_Model_83 (show (xup xYf 72 (some (sInts 200))) 59 = some sModel from rfl) rfl ((congrFun (xup_s _ _ _) _).trans (zS_19 _ _ _ _ _ _ _ _)) d_Model_text_151 ?_
  refine X_isub d_Model_text_154 ?_
  exact X_iret rfl rfl (xle_72 (J := xup (xup (xup (xw (xw J 65 (4 * tc + 1) (nI cs.length)) 65 (4 * tc + 3) (nI cs.length)) 64 (zC (200 * tc) cs (J 64))) 72 H) 59 (zS (xup (J 59) 5 0) (nI (vNx (J 63) n (zBl (J 63) n p))) (nI (zBl (J 63) n p)) 3 v1 hm o (nI cs.length))) (I := xup (xup (xw (xw J 65 (4 * tc + 1) (nI cs.length)) 65 (4 * tc + 3) (nI cs.length)) 64 (zC (200 * tc) cs (J 64))) 59 (zS (xup (J 59) 5 0) (nI (vNx (J 63) n (zBl (J 63) n p))) (nI (zBl (J 63) n p)) 3 v1 hm o (nI cs.length))) H (fun k hk => by simp only [xup_ap, if_neg hk])) d_Model_text_155
theorem t_E_1 (l : Launch) (G : xG) {d : Nat} (nn : Nat) (hd : 5 ≤ d) (J : xI) (tc : Nat) (h8 : J 59 8 = nI tc) (htc : tc < 6) (n : Nat) (h5 : J 59 5 = nI n) (hn : n ≤ 160) (hB : ∀ j, j < n → ¬ J 63 j < 0) (p : Nat) (hp : p ≤ n) (cs : List Int32) (hl : cs.length ≤ p) (b t v hm o : Int32) (htk : zTk (J 71) (J 63) n (zBl (J 63) n p) = 3) (hva : zVa (J 71) (J 63) n (zBl (J 63) n p) = 1) (r : Bool × Nat × List Int32 × Int32 × List Int32) (hr : zE (J 71) (J 63) n (vNx (J 63) n (zBl (J 63) n p)) cs = r) (hr1 : r.1 = false) : Qt l G d nn J tc 1 p cs b t v hm o ((-100) - (nI (zBl (J 63) n r.2.1))) (xup (xup (xw (xw J 65 (4 * tc + 1) (nI cs.length)) 65 (4 * tc + 3) (nI r.2.2.2.2.length)) 64 (zC (200 * tc) r.2.2.2.2 (J 64))) 59 (zS (xup (J 59) 5 0) (nI (vNx (J 63) n (zBl (J 63) n r.2.1))) (nI (zBl (J 63) n r.2.1)) (zTk (J 71) (J 63) n (zBl (J 63) n r.2.1)) (zVa (J 71) (J 63) n (zBl (J 63) n r.2.1)) (nI r.2.2.1.length) r.2.2.2.1 (nI r.2.2.2.2.length))) := by
  unfold Qt
  have hbl := zBl_b (J 63) hp
  have hqn : zBl (J 63) n p < n := Nat.lt_of_not_le (fun z => by have e0 := zTk_0 (wd := J 71) (g := J 63) z; rw [htk] at e0; exact absurd e0 (by decide))
  have hx := vNx_b hB hn hqn
  refine X_iload_n d_Model_text_26 rfl rfl ?_
  refine X_iconst (v := 3) d_Model_text_27 rfl ?_
  refine X_icmp_ge (tgt := 101) d_Model_text_28 (by decide) (fun c_1 => absurd c_1 (by decide)) (fun _ => ?_)
  refine X_iload_n d_Model_text_31 rfl rfl ?_
  refine X_if_eq (tgt := 101) d_Model_text_32 (by decide) (fun c_2 => absurd c_2 (by decide)) (fun _ => ?_)
  refine X_aload_n d_Model_text_35 rfl rfl ?_
  refine X_knowI (a := 72) (by decide) rfl (fun H => ?_)
  rw [xup_comm (xup J 64 (zC (200 * tc) cs (J 64))) _ _ (show (59 : Nat) ≠ 72 by decide)]
  refine X_callVv (rest := []) (by have q0 := c_Model_next l G nn (d := d - 1) (by omega) J n h5 hn (zC (200 * tc) cs (J 64)) H b t v hm o (nI cs.length) hB p hp; rw [show rRun bBlank (J 63) n 160 p = (zBl (J 63) n p) from rfl, htk, hva] at q0; exact q0) lk_Model_next ml_Model_119 (xm_obj (show (xup xYf 72 (some (sInts 200))) 59 = some sModel from rfl)) rfl rfl (Nat.le_of_ble_eq_true rfl) (xRok (d' := d - 1) (by omega) (by decide)) ⟨Nat.le_refl _, Nat.le_refl _⟩ d_Model_text_36 rfl ?_
  refine X_aload_n d_Model_text_39 rfl rfl ?_
  refine X_getI (v := 3) fg_Model_86 (show (xup xYf 72 (some (sInts 200))) 59 = some sModel from rfl) rfl ((congrFun (xup_s _ _ _) _).trans (zS_20 _ _ _ _ _ _ _ _)) d_Model_text_40 ?_
  refine X_iconst (v := 3) d_Model_text_43 rfl ?_
  refine X_icmp_ne (tgt := 59) d_Model_text_44 (by decide) (fun c_3 => absurd c_3 (by decide)) (fun _ => ?_)
  refine X_aload_n d_Model_text_47 rfl rfl ?_
  refine X_getI (v := 1) fg_Model_89 (show (xup xYf 72 (some (sInts 200))) 59 = some sModel from rfl) rfl ((congrFun (xup_s _ _ _) _).trans (zS_21 _ _ _ _ _ _ _ _)) d_Model_text_48 ?_
  refine X_iload_n d_Model_text_51 rfl rfl ?_
  refine X_icmp_ne (tgt := 59) d_Model_text_52 (by decide) (fun c_4 => absurd c_4 (by decide)) (fun _ => ?_)
  refine X_iconst (v := 1) d_Model_text_55 rfl ?_
  refine X_goto (tgt := 60) d_Model_text_56 (by decide) ?_
  refine X_istore_n d_Model_text_60 rfl (by decide) [1, 0, 2] (L' := [(0, .ref (xg G 59)), (1, .int 1), (2, .int 1)]) rfl ?_
  refine X_aload_n d_Model_text_61 rfl rfl ?_
  refine X_getR (r := 65) fg_Model_25 (show (xup xYf 72 (some (sInts 200))) 59 = some sModel from rfl) rfl d_Model_text_62 ?_
  refine X_iconst (v := 4) d_Model_text_65 rfl ?_
  refine X_aload_n d_Model_text_66 rfl rfl ?_
  refine X_getI (v := nI tc) fg_Model_70 (show (xup xYf 72 (some (sInts 200))) 59 = some sModel from rfl) rfl ((congrFun (xup_s _ _ _) _).trans ((zS_o _ _ _ _ _ _ _ _ (by decide)).trans (h8))) d_Model_text_67 ?_
  refine X_imul d_Model_text_70 ?_
  refine X_iload_n d_Model_text_71 rfl rfl ?_
  refine X_iadd d_Model_text_72 ?_
  refine X_aload_n d_Model_text_73 rfl rfl ?_
  refine X_getI (v := nI cs.length) fg_Model_96 (show (xup xYf 72 (some (sInts 200))) 59 = some sModel from rfl) rfl ((congrFun (xup_s _ _ _) _).trans (zS_26 _ _ _ _ _ _ _ _)) d_Model_text_74 ?_
  refine X_astI (show (xup xYf 72 (some (sInts 200))) 65 = some (sInts 24) from rfl) (ixin (ixA (ixM (show (4 : Int32) = nI 4 from rfl) (show nI tc = nI tc from rfl)) (show (1 : Int32) = nI 1 from rfl)) (show 4 * tc + 1 < 24 by omega) (by decide)) d_Model_text_77 ?_
  rw [ixcl (x := (4 * (nI tc)) + 1) (ixA (ixM (show (4 : Int32) = nI 4 from rfl) (show nI tc = nI tc from rfl)) (show (1 : Int32) = nI 1 from rfl)) (show 4 * tc + 1 < 2 ^ 31 by omega)]
  rw [zw65h]
  refine X_iload_n d_Model_text_78 rfl rfl ?_
  refine X_if_eq (tgt := 93) d_Model_text_79 (by decide) (fun c_5 => absurd c_5 (by decide)) (fun _ => ?_)
  refine X_aload_n d_Model_text_82 rfl rfl ?_
  have e59 : (xw J 65 (4 * tc + 1) (nI cs.length)) 59 = J 59 := xw_row _ _ _ (by decide)
  have e63 : (xw J 65 (4 * tc + 1) (nI cs.length)) 63 = J 63 := xw_row _ _ _ (by decide)
  have e64 : (xw J 65 (4 * tc + 1) (nI cs.length)) 64 = J 64 := xw_row _ _ _ (by decide)
  have e71 : (xw J 65 (4 * tc + 1) (nI cs.length)) 71 = J 71 := xw_row _ _ _ (by decide)
  have q0 := c_Model_eRead l G nn (d := d - 1) (by omega) (xw J 65 (4 * tc + 1) (nI cs.length)) tc (by rw [e59]; exact h8) htc n (by rw [e59]; exact h5) hn (by rw [e63]; exact hB) (vNx (J 63) n (zBl (J 63) n p)) hx.2 cs (by omega) (nI (zBl (J 63) n p)) 3 1 hm o H r (by rw [e63, e71]; exact hr)
  rw [e59, e63, e64, e71, hr1, show xb false = 0 from rfl] at q0
  refine X_callV (v := .int 0) (rest := []) q0 lk_Model_eRead ml_Model_132 (xm_obj (show xYf 59 = some sModel from rfl)) rfl rfl (Nat.le_of_ble_eq_true rfl) (xRok (d' := d - 1) (by omega) (by decide)) ⟨Nat.le_refl _, Nat.le_refl _⟩ d_Model_text_83 rfl ?_
  refine X_if_eq (tgt := 93) d_Model_text_86 (by decide) (fun _ => ?_) (fun c_6 => absurd c_6 (by decide))
  refine X_iconst (v := 0) d_Model_text_93 rfl ?_
  refine X_istore_n d_Model_text_94 rfl (by decide) [1, 0, 2] (L' := [(0, .ref (xg G 59)), (1, .int 0), (2, .int 1)]) rfl ?_
  refine X_iinc d_Model_text_95 rfl (v := 2) rfl (by decide) [1, 2, 0] (L' := [(0, .ref (xg G 59)), (1, .int 0), (2, .int 2)]) rfl ?_
  refine X_goto (tgt := 26) d_Model_text_98 (by decide) ?_
  refine X_iload_n d_Model_text_26 rfl rfl ?_
  refine X_iconst (v := 3) d_Model_text_27 rfl ?_
  refine X_icmp_ge (tgt := 101) d_Model_text_28 (by decide) (fun c_7 => absurd c_7 (by decide)) (fun _ => ?_)
  refine X_iload_n d_Model_text_31 rfl rfl ?_
  refine X_if_eq (tgt := 101) d_Model_text_32 (by decide) (fun _ => ?_) (fun c_8 => absurd c_8 (by decide))
  refine X_iload_n d_Model_text_101 rfl rfl ?_
  refine X_if_eq (tgt := 122) d_Model_text_102 (by decide) (fun _ => ?_) (fun c_9 => absurd c_9 (by decide))
  refine X_aload_n d_Model_text_122 rfl rfl ?_
  refine X_getR (r := 65) fg_Model_25 (show xYf 59 = some sModel from rfl) rfl d_Model_text_123 ?_
  refine X_iconst (v := 4) d_Model_text_126 rfl ?_
  refine X_aload_n d_Model_text_127 rfl rfl ?_
  refine X_getI (v := nI tc) fg_Model_70 (show xYf 59 = some sModel from rfl) rfl ((congrFun (xup_s _ _ _) _).trans ((zS_o _ _ _ _ _ _ _ _ (by decide)).trans (h8))) d_Model_text_128 ?_
  refine X_imul d_Model_text_131 ?_
  refine X_iconst (v := 3) d_Model_text_132 rfl ?_
  refine X_iadd d_Model_text_133 ?_
  refine X_aload_n d_Model_text_134 rfl rfl ?_
  refine X_getI (v := nI r.2.2.2.2.length) fg_Model_96 (show xYf 59 = some sModel from rfl) rfl ((congrFun (xup_s _ _ _) _).trans (zS_26 _ _ _ _ _ _ _ _)) d_Model_text_135 ?_
  refine X_astI (show xYf 65 = some (sInts 24) from rfl) (ixin (ixA (ixM (show (4 : Int32) = nI 4 from rfl) (show nI tc = nI tc from rfl)) (show (3 : Int32) = nI 3 from rfl)) (show 4 * tc + 3 < 24 by omega) (by decide)) d_Model_text_138 ?_
  rw [ixcl (x := (4 * (nI tc)) + 3) (ixA (ixM (show (4 : Int32) = nI 4 from rfl) (show nI tc = nI tc from rfl)) (show (3 : Int32) = nI 3 from rfl)) (show 4 * tc + 3 < 2 ^ 31 by omega)]
  rw [zw65]
  refine X_aload_n d_Model_text_139 rfl rfl ?_
  refine X_iconst (v := 0) d_Model_text_140 rfl ?_
  refine X_putI fp_Model_55 (show xYf 59 = some sModel from rfl) rfl d_Model_text_141 ?_
  rw [xw_rec]
  rw [zSs_o _ _ _ _ _ _ _ _ _ (by decide)]
  refine X_iload_n d_Model_text_144 rfl rfl ?_
  refine X_if_ne (tgt := 156) d_Model_text_145 (by decide) (fun c_10 => absurd c_10 (by decide)) (fun _ => ?_)
  refine X_bipush (v := -100) d_Model_text_148 rfl ?_
  refine X_aload_n d_Model_text_150 rfl rfl ?_
  refine X_getI (v := nI (zBl (J 63) n r.2.1)) fg_Model_83 (show xYf 59 = some sModel from rfl) rfl ((congrFun (xup_s _ _ _) _).trans (zS_19 _ _ _ _ _ _ _ _)) d_Model_text_151 ?_
  refine X_isub d_Model_text_154 ?_
  exact X_iret rfl rfl (xle_rf _) d_Model_text_155
theorem t_G_1 (l : Launch) (G : xG) {d : Nat} (nn : Nat) (hd : 5 ≤ d) (J : xI) (tc : Nat) (h8 : J 59 8 = nI tc) (htc : tc < 6) (n : Nat) (h5 : J 59 5 = nI n) (hn : n ≤ 160) (hB : ∀ j, j < n → ¬ J 63 j < 0) (p : Nat) (hp : p ≤ n) (cs : List Int32) (hl : cs.length ≤ p) (b t v hm o : Int32) (htk : zTk (J 71) (J 63) n (zBl (J 63) n p) = 3) (hva : zVa (J 71) (J 63) n (zBl (J 63) n p) = 1) (r : Bool × Nat × List Int32 × Int32 × List Int32) (hr : zE (J 71) (J 63) n (vNx (J 63) n (zBl (J 63) n p)) cs = r) (hr1 : r.1 = true) (ans : Int32) (J' : xI) (ih : Qt l G d nn (xw J 65 (4 * tc + 1) (nI cs.length)) tc 2 (vNx (J 63) n (zBl (J 63) n r.2.1)) r.2.2.2.2 (nI (zBl (J 63) n r.2.1)) (zTk (J 71) (J 63) n (zBl (J 63) n r.2.1)) (zVa (J 71) (J 63) n (zBl (J 63) n r.2.1)) (nI r.2.2.1.length) r.2.2.2.1 ans J') : Qt l G d nn J tc 1 p cs b t v hm o ans J' := by
  unfold Qt
  have hbl := zBl_b (J 63) hp
  have hqn : zBl (J 63) n p < n := Nat.lt_of_not_le (fun z => by have e0 := zTk_0 (wd := J 71) (g := J 63) z; rw [htk] at e0; exact absurd e0 (by decide))
  have hx := vNx_b hB hn hqn
  refine X_iload_n d_Model_text_26 rfl rfl ?_
  refine X_iconst (v := 3) d_Model_text_27 rfl ?_
  refine X_icmp_ge (tgt := 101) d_Model_text_28 (by decide) (fun c_1 => absurd c_1 (by decide)) (fun _ => ?_)
  refine X_iload_n d_Model_text_31 rfl rfl ?_
  refine X_if_eq (tgt := 101) d_Model_text_32 (by decide) (fun c_2 => absurd c_2 (by decide)) (fun _ => ?_)
  refine X_aload_n d_Model_text_35 rfl rfl ?_
  refine X_knowI (a := 72) (by decide) rfl (fun H => ?_)
  rw [xup_comm (xup J 64 (zC (200 * tc) cs (J 64))) _ _ (show (59 : Nat) ≠ 72 by decide)]
  refine X_callVv (rest := []) (by have q0 := c_Model_next l G nn (d := d - 1) (by omega) J n h5 hn (zC (200 * tc) cs (J 64)) H b t v hm o (nI cs.length) hB p hp; rw [show rRun bBlank (J 63) n 160 p = (zBl (J 63) n p) from rfl, htk, hva] at q0; exact q0) lk_Model_next ml_Model_119 (xm_obj (show (xup xYf 72 (some (sInts 200))) 59 = some sModel from rfl)) rfl rfl (Nat.le_of_ble_eq_true rfl) (xRok (d' := d - 1) (by omega) (by decide)) ⟨Nat.le_refl _, Nat.le_refl _⟩ d_Model_text_36 rfl ?_
  refine X_aload_n d_Model_text_39 rfl rfl ?_
  refine X_getI (v := 3) fg_Model_86 (show (xup xYf 72 (some (sInts 200))) 59 = some sModel from rfl) rfl ((congrFun (xup_s _ _ _) _).trans (zS_20 _ _ _ _ _ _ _ _)) d_Model_text_40 ?_
  refine X_iconst (v := 3) d_Model_text_43 rfl ?_
  refine X_icmp_ne (tgt := 59) d_Model_text_44 (by decide) (fun c_3 => absurd c_3 (by decide)) (fun _ => ?_)
  refine X_aload_n d_Model_text_47 rfl rfl ?_
  refine X_getI (v := 1) fg_Model_89 (show (xup xYf 72 (some (sInts 200))) 59 = some sModel from rfl) rfl ((congrFun (xup_s _ _ _) _).trans (zS_21 _ _ _ _ _ _ _ _)) d_Model_text_48 ?_
  refine X_iload_n d_Model_text_51 rfl rfl ?_
  refine X_icmp_ne (tgt := 59) d_Model_text_52 (by decide) (fun c_4 => absurd c_4 (by decide)) (fun _ => ?_)
  refine X_iconst (v := 1) d_Model_text_55 rfl ?_
  refine X_goto (tgt := 60) d_Model_text_56 (by decide) ?_
  refine X_istore_n d_Model_text_60 rfl (by decide) [1, 0, 2] (L' := [(0, .ref (xg G 59)), (1, .int 1), (2, .int 1)]) rfl ?_
  refine X_aload_n d_Model_text_61 rfl rfl ?_
  refine X_getR (r := 65) fg_Model_25 (show (xup xYf 72 (some (sInts 200))) 59 = some sModel from rfl) rfl d_Model_text_62 ?_
  refine X_iconst (v := 4) d_Model_text_65 rfl ?_
  refine X_aload_n d_Model_text_66 rfl rfl ?_
  refine X_getI (v := nI tc) fg_Model_70 (show (xup xYf 72 (some (sInts 200))) 59 = some sModel from rfl) rfl ((congrFun (xup_s _ _ _) _).trans ((zS_o _ _ _ _ _ _ _ _ (by decide)).trans (h8))) d_Model_text_67 ?_
  refine X_imul d_Model_text_70 ?_
  refine X_iload_n d_Model_text_71 rfl rfl ?_
  refine X_iadd d_Model_text_72 ?_
  refine X_aload_n d_Model_text_73 rfl rfl ?_
  refine X_getI (v := nI cs.length) fg_Model_96 (show (xup xYf 72 (some (sInts 200))) 59 = some sModel from rfl) rfl ((congrFun (xup_s _ _ _) _).trans (zS_26 _ _ _ _ _ _ _ _)) d_Model_text_74 ?_
  refine X_astI (show (xup xYf 72 (some (sInts 200))) 65 = some (sInts 24) from rfl) (ixin (ixA (ixM (show (4 : Int32) = nI 4 from rfl) (show nI tc = nI tc from rfl)) (show (1 : Int32) = nI 1 from rfl)) (show 4 * tc + 1 < 24 by omega) (by decide)) d_Model_text_77 ?_
  rw [ixcl (x := (4 * (nI tc)) + 1) (ixA (ixM (show (4 : Int32) = nI 4 from rfl) (show nI tc = nI tc from rfl)) (show (1 : Int32) = nI 1 from rfl)) (show 4 * tc + 1 < 2 ^ 31 by omega)]
  rw [zw65h]
  refine X_iload_n d_Model_text_78 rfl rfl ?_
  refine X_if_eq (tgt := 93) d_Model_text_79 (by decide) (fun c_5 => absurd c_5 (by decide)) (fun _ => ?_)
  refine X_aload_n d_Model_text_82 rfl rfl ?_
  have e59 : (xw J 65 (4 * tc + 1) (nI cs.length)) 59 = J 59 := xw_row _ _ _ (by decide)
  have e63 : (xw J 65 (4 * tc + 1) (nI cs.length)) 63 = J 63 := xw_row _ _ _ (by decide)
  have e64 : (xw J 65 (4 * tc + 1) (nI cs.length)) 64 = J 64 := xw_row _ _ _ (by decide)
  have e71 : (xw J 65 (4 * tc + 1) (nI cs.length)) 71 = J 71 := xw_row _ _ _ (by decide)
  have q0 := c_Model_eRead l G nn (d := d - 1) (by omega) (xw J 65 (4 * tc + 1) (nI cs.length)) tc (by rw [e59]; exact h8) htc n (by rw [e59]; exact h5) hn (by rw [e63]; exact hB) (vNx (J 63) n (zBl (J 63) n p)) hx.2 cs (by omega) (nI (zBl (J 63) n p)) 3 1 hm o H r (by rw [e63, e71]; exact hr)
  rw [e59, e63, e64, e71, hr1, show xb true = 1 from rfl] at q0
  refine X_callV (v := .int 1) (rest := []) q0 lk_Model_eRead ml_Model_132 (xm_obj (show xYf 59 = some sModel from rfl)) rfl rfl (Nat.le_of_ble_eq_true rfl) (xRok (d' := d - 1) (by omega) (by decide)) ⟨Nat.le_refl _, Nat.le_refl _⟩ d_Model_text_83 rfl ?_
  refine X_if_eq (tgt := 93) d_Model_text_86 (by decide) (fun c_6 => absurd c_6 (by decide)) (fun _ => ?_)
  refine X_iconst (v := 1) d_Model_text_89 rfl ?_
  refine X_goto (tgt := 94) d_Model_text_90 (by decide) ?_
  refine X_istore_n d_Model_text_94 rfl (by decide) [1, 0, 2] (L' := [(0, .ref (xg G 59)), (1, .int 1), (2, .int 1)]) rfl ?_
  refine X_iinc d_Model_text_95 rfl (v := 2) rfl (by decide) [1, 2, 0] (L' := [(0, .ref (xg G 59)), (1, .int 1), (2, .int 2)]) rfl ?_
  refine X_goto (tgt := 26) d_Model_text_98 (by decide) ?_
  unfold Qt at ih
  rw [e59, e64] at ih
  exact ih
theorem t_T1_2 (l : Launch) (G : xG) {d : Nat} (nn : Nat) (hd : 5 ≤ d) (J : xI) (tc : Nat) (h8 : J 59 8 = nI tc) (htc : tc < 6) (n : Nat) (h5 : J 59 5 = nI n) (hn : n ≤ 160) (hB : ∀ j, j < n → ¬ J 63 j < 0) (p : Nat) (hp : p ≤ n) (cs : List Int32) (hl : cs.length ≤ p) (b t v hm o : Int32) (tk v1 : Int32) (htk : zTk (J 71) (J 63) n (zBl (J 63) n p) = tk) (hva : zVa (J 71) (J 63) n (zBl (J 63) n p) = v1) (hn3 : ¬ tk = 3) : Qt l G d nn J tc 2 p cs b t v hm o ((-100) - (nI (zBl (J 63) n p))) (xup (xup (xw (xw J 65 (4 * tc + 2) (nI cs.length)) 65 (4 * tc + 3) (nI cs.length)) 64 (zC (200 * tc) cs (J 64))) 59 (zS (xup (J 59) 5 0) (nI (vNx (J 63) n (zBl (J 63) n p))) (nI (zBl (J 63) n p)) tk v1 hm o (nI cs.length))) := by
  unfold Qt
  refine X_iload_n d_Model_text_26 rfl rfl ?_
  refine X_iconst (v := 3) d_Model_text_27 rfl ?_
  refine X_icmp_ge (tgt := 101) d_Model_text_28 (by decide) (fun c_1 => absurd c_1 (by decide)) (fun _ => ?_)
  refine X_iload_n d_Model_text_31 rfl rfl ?_
  refine X_if_eq (tgt := 101) d_Model_text_32 (by decide) (fun c_2 => absurd c_2 (by decide)) (fun _ => ?_)
  refine X_aload_n d_Model_text_35 rfl rfl ?_
  refine X_knowI (a := 72) (by decide) rfl (fun H => ?_)
  rw [xup_comm (xup J 64 (zC (200 * tc) cs (J 64))) _ _ (show (59 : Nat) ≠ 72 by decide)]
  refine X_callVv (rest := []) (by have q0 := c_Model_next l G nn (d := d - 1) (by omega) J n h5 hn (zC (200 * tc) cs (J 64)) H b t v hm o (nI cs.length) hB p hp; rw [show rRun bBlank (J 63) n 160 p = (zBl (J 63) n p) from rfl, htk, hva] at q0; exact q0) lk_Model_next ml_Model_119 (xm_obj (show (xup xYf 72 (some (sInts 200))) 59 = some sModel from rfl)) rfl rfl (Nat.le_of_ble_eq_true rfl) (xRok (d' := d - 1) (by omega) (by decide)) ⟨Nat.le_refl _, Nat.le_refl _⟩ d_Model_text_36 rfl ?_
  refine X_aload_n d_Model_text_39 rfl rfl ?_
  refine X_getI (v := tk) fg_Model_86 (show (xup xYf 72 (some (sInts 200))) 59 = some sModel from rfl) rfl ((congrFun (xup_s _ _ _) _).trans (zS_20 _ _ _ _ _ _ _ _)) d_Model_text_40 ?_
  refine X_iconst (v := 3) d_Model_text_43 rfl ?_
  refine X_icmp_ne (tgt := 59) d_Model_text_44 (by decide) (fun _ => ?_) (fun c_3 => absurd c_3 hn3)
  refine X_iconst (v := 0) d_Model_text_59 rfl ?_
  refine X_istore_n d_Model_text_60 rfl (by decide) [1, 0, 2] (L' := [(0, .ref (xg G 59)), (1, .int 0), (2, .int 2)]) rfl ?_
  refine X_aload_n d_Model_text_61 rfl rfl ?_
  refine X_getR (r := 65) fg_Model_25 (show (xup xYf 72 (some (sInts 200))) 59 = some sModel from rfl) rfl d_Model_text_62 ?_
  refine X_iconst (v := 4) d_Model_text_65 rfl ?_
  refine X_aload_n d_Model_text_66 rfl rfl ?_
  refine X_getI (v := nI tc) fg_Model_70 (show (xup xYf 72 (some (sInts 200))) 59 = some sModel from rfl) rfl ((congrFun (xup_s _ _ _) _).trans ((zS_o _ _ _ _ _ _ _ _ (by decide)).trans (h8))) d_Model_text_67 ?_
  refine X_imul d_Model_text_70 ?_
  refine X_iload_n d_Model_text_71 rfl rfl ?_
  refine X_iadd d_Model_text_72 ?_
  refine X_aload_n d_Model_text_73 rfl rfl ?_
  refine X_getI (v := nI cs.length) fg_Model_96 (show (xup xYf 72 (some (sInts 200))) 59 = some sModel from rfl) rfl ((congrFun (xup_s _ _ _) _).trans (zS_26 _ _ _ _ _ _ _ _)) d_Model_text_74 ?_
  refine X_astI (show (xup xYf 72 (some (sInts 200))) 65 = some (sInts 24) from rfl) (ixin (ixA (ixM (show (4 : Int32) = nI 4 from rfl) (show nI tc = nI tc from rfl)) (show (2 : Int32) = nI 2 from rfl)) (show 4 * tc + 2 < 24 by omega) (by decide)) d_Model_text_77 ?_
  rw [ixcl (x := (4 * (nI tc)) + 2) (ixA (ixM (show (4 : Int32) = nI 4 from rfl) (show nI tc = nI tc from rfl)) (show (2 : Int32) = nI 2 from rfl)) (show 4 * tc + 2 < 2 ^ 31 by omega)]
  rw [zw65h]
  refine X_iload_n d_Model_text_78 rfl rfl ?_
  refine X_if_eq (tgt := 93) d_Model_text_79 (by decide) (fun _ => ?_) (fun c_4 => absurd c_4 (by decide))
  refine X_iconst (v := 0) d_Model_text_93 rfl ?_
  refine X_istore_n d_Model_text_94 rfl (by decide) [1, 0, 2] (L' := [(0, .ref (xg G 59)), (1, .int 0), (2, .int 2)]) rfl ?_
  refine X_iinc d_Model_text_95 rfl (v := 3) rfl (by decide) [1, 2, 0] (L' := [(0, .ref (xg G 59)), (1, .int 0), (2, .int 3)]) rfl ?_
  refine X_goto (tgt := 26) d_Model_text_98 (by decide) ?_
  refine X_iload_n d_Model_text_26 rfl rfl ?_
  refine X_iconst (v := 3) d_Model_text_27 rfl ?_
  refine X_icmp_ge (tgt := 101) d_Model_text_28 (by decide) (fun _ => ?_) (fun c_5 => absurd c_5 (by decide))
  refine X_iload_n d_Model_text_101 rfl rfl ?_
  refine X_if_eq (tgt := 122) d_Model_text_102 (by decide) (fun _ => ?_) (fun c_6 => absurd c_6 (by decide))
  refine X_aload_n d_Model_text_122 rfl rfl ?_
  refine X_getR (r := 65) fg_Model_25 (show (xup xYf 72 (some (sInts 200))) 59 = some sModel from rfl) rfl d_Model_text_123 ?_
  refine X_iconst (v := 4) d_Model_text_126 rfl ?_
  refine X_aload_n d_Model_text_127 rfl rfl ?_
  refine X_getI (v := nI tc) fg_Model_70 (show (xup xYf 72 (some (sInts 200))) 59 = some sModel from rfl) rfl ((congrFun (xup_s _ _ _) _).trans ((zS_o _ _ _ _ _ _ _ _ (by decide)).trans (h8))) d_Model_text_128 ?_
  refine X_imul d_Model_text_131 ?_
  refine X_iconst (v := 3) d_Model_text_132 rfl ?_
  refine X_iadd d_Model_text_133 ?_
  refine X_aload_n d_Model_text_134 rfl rfl ?_
  refine X_getI (v := nI cs.length) fg_Model_96 (show (xup xYf 72 (some (sInts 200))) 59 = some sModel from rfl) rfl ((congrFun (xup_s _ _ _) _).trans (zS_26 _ _ _ _ _ _ _ _)) d_Model_text_135 ?_
  refine X_astI (show (xup xYf 72 (some (sInts 200))) 65 = some (sInts 24) from rfl) (ixin (ixA (ixM (show (4 : Int32) = nI 4 from rfl) (show nI tc = nI tc from rfl)) (show (3 : Int32) = nI 3 from rfl)) (show 4 * tc + 3 < 24 by omega) (by decide)) d_Model_text_138 ?_
  rw [ixcl (x := (4 * (nI tc)) + 3) (ixA (ixM (show (4 : Int32) = nI 4 from rfl) (show nI tc = nI tc from rfl)) (show (3 : Int32) = nI 3 from rfl)) (show 4 * tc + 3 < 2 ^ 31 by omega)]
  rw [zw65h]
  refine X_aload_n d_Model_text_139 rfl rfl ?_
  refine X_iconst (v := 0) d_Model_text_140 rfl ?_
  refine X_putI fp_Model_55 (show (xup xYf 72 (some (sInts 200))) 59 = some sModel from rfl) rfl d_Model_text_141 ?_
  rw [xw_rec]
  rw [zSs_o _ _ _ _ _ _ _ _ _ (by decide)]
  refine X_iload_n d_Model_text_144 rfl rfl ?_
  refine X_if_ne (tgt := 156) d_Model_text_145 (by decide) (fun c_7 => absurd c_7 (by decide)) (fun _ => ?_)
  refine X_bipush (v := -100) d_Model_text_148 rfl ?_
  refine X_aload_n d_Model_text_150 rfl rfl ?_
  refine X_getI (v := nI (zBl (J 63) n p)) fg_Model_83 (show (xup xYf 72 (some (sInts 200))) 59 = some sModel from rfl) rfl ((congrFun (xup_s _ _ _) _).trans (zS_19 _ _ _ _ _ _ _ _)) d_Model_text_151 ?_
  refine X_isub d_Model_text_154 ?_
  exact X_iret rfl rfl (xle_72 (J := xup (xup (xup (xw (xw J 65 (4 * tc + 2) (nI cs.length)) 65 (4 * tc + 3) (nI cs.length)) 64 (zC (200 * tc) cs (J 64))) 72 H) 59 (zS (xup (J 59) 5 0) (nI (vNx (J 63) n (zBl (J 63) n p))) (nI (zBl (J 63) n p)) tk v1 hm o (nI cs.length))) (I := xup (xup (xw (xw J 65 (4 * tc + 2) (nI cs.length)) 65 (4 * tc + 3) (nI cs.length)) 64 (zC (200 * tc) cs (J 64))) 59 (zS (xup (J 59) 5 0) (nI (vNx (J 63) n (zBl (J 63) n p))) (nI (zBl (J 63) n p)) tk v1 hm o (nI cs.length))) H (fun k hk => by simp only [xup_ap, if_neg hk])) d_Model_text_155
theorem t_T2_2 (l : Launch) (G : xG) {d : Nat} (nn : Nat) (hd : 5 ≤ d) (J : xI) (tc : Nat) (h8 : J 59 8 = nI tc) (htc : tc < 6) (n : Nat) (h5 : J 59 5 = nI n) (hn : n ≤ 160) (hB : ∀ j, j < n → ¬ J 63 j < 0) (p : Nat) (hp : p ≤ n) (cs : List Int32) (hl : cs.length ≤ p) (b t v hm o : Int32) (v1 : Int32) (htk : zTk (J 71) (J 63) n (zBl (J 63) n p) = 3) (hva : zVa (J 71) (J 63) n (zBl (J 63) n p) = v1) (hnv : ¬ v1 = 2) : Qt l G d nn J tc 2 p cs b t v hm o ((-100) - (nI (zBl (J 63) n p))) (xup (xup (xw (xw J 65 (4 * tc + 2) (nI cs.length)) 65 (4 * tc + 3) (nI cs.length)) 64 (zC (200 * tc) cs (J 64))) 59 (zS (xup (J 59) 5 0) (nI (vNx (J 63) n (zBl (J 63) n p))) (nI (zBl (J 63) n p)) 3 v1 hm o (nI cs.length))) := by
  unfold Qt
  refine X_iload_n d_Model_text_26 rfl rfl ?_
  refine X_iconst (v := 3) d_Model_text_27 rfl ?_
  refine X_icmp_ge (tgt := 101) d_Model_text_28 (by decide) (fun c_1 => absurd c_1 (by decide)) (fun _ => ?_)
  refine X_iload_n d_Model_text_31 rfl rfl ?_
  refine X_if_eq (tgt := 101) d_Model_text_32 (by decide) (fun c_2 => absurd c_2 (by decide)) (fun _ => ?_)
  refine X_aload_n d_Model_text_35 rfl rfl ?_
  refine X_knowI (a := 72) (by decide) rfl (fun H => ?_)
  rw [xup_comm (xup J 64 (zC (200 * tc) cs (J 64))) _ _ (show (59 : Nat) ≠ 72 by decide)]
  refine X_callVv (rest := []) (by have q0 := c_Model_next l G nn (d := d - 1) (by omega) J n h5 hn (zC (200 * tc) cs (J 64)) H b t v hm o (nI cs.length) hB p hp; rw [show rRun bBlank (J 63) n 160 p = (zBl (J 63) n p) from rfl, htk, hva] at q0; exact q0) lk_Model_next ml_Model_119 (xm_obj (show (xup xYf 72 (some (sInts 200))) 59 = some sModel from rfl)) rfl rfl (Nat.le_of_ble_eq_true rfl) (xRok (d' := d - 1) (by omega) (by decide)) ⟨Nat.le_refl _, Nat.le_refl _⟩ d_Model_text_36 rfl ?_
  refine X_aload_n d_Model_text_39 rfl rfl ?_
  refine X_getI (v := 3) fg_Model_86 (show (xup xYf 72 (some (sInts 200))) 59 = some sModel from rfl) rfl ((congrFun (xup_s _ _ _) _).trans (zS_20 _ _ _ _ _ _ _ _)) d_Model_text_40 ?_
  refine X_iconst (v := 3) d_Model_text_43 rfl ?_
  refine X_icmp_ne (tgt := 59) d_Model_text_44 (by decide) (fun c_3 => absurd c_3 (by decide)) (fun _ => ?_)
  refine X_aload_n d_Model_text_47 rfl rfl ?_
  refine X_getI (v := v1) fg_Model_89 (show (xup xYf 72 (some (sInts 200))) 59 = some sModel from rfl) rfl ((congrFun (xup_s _ _ _) _).trans (zS_21 _ _ _ _ _ _ _ _)) d_Model_text_48 ?_
  refine X_iload_n d_Model_text_51 rfl rfl ?_
  refine X_icmp_ne (tgt := 59) d_Model_text_52 (by decide) (fun _ => ?_) (fun c_4 => absurd c_4 hnv)
  refine X_iconst (v := 0) d_Model_text_59 rfl ?_
  refine X_istore_n d_Model_text_60 rfl (by decide) [1, 0, 2] (L' := [(0, .ref (xg G 59)), (1, .int 0), (2, .int 2)]) rfl ?_
  refine X_aload_n d_Model_text_61 rfl rfl ?_
  refine X_getR (r := 65) fg_Model_25 (show (xup xYf 72 (some (sInts 200))) 59 = some sModel from rfl) rfl d_Model_text_62 ?_
  refine X_iconst (v := 4) d_Model_text_65 rfl ?_
  refine X_aload_n d_Model_text_66 rfl rfl ?_
  refine X_getI (v := nI tc) fg_Model_70 (show (xup xYf 72 (some (sInts 200))) 59 = some sModel from rfl) rfl ((congrFun (xup_s _ _ _) _).trans ((zS_o _ _ _ _ _ _ _ _ (by decide)).trans (h8))) d_Model_text_67 ?_
  refine X_imul d_Model_text_70 ?_
  refine X_iload_n d_Model_text_71 rfl rfl ?_
  refine X_iadd d_Model_text_72 ?_
  refine X_aload_n d_Model_text_73 rfl rfl ?_
  refine X_getI (v := nI cs.length) fg_Model_96 (show (xup xYf 72 (some (sInts 200))) 59 = some sModel from rfl) rfl ((congrFun (xup_s _ _ _) _).trans (zS_26 _ _ _ _ _ _ _ _)) d_Model_text_74 ?_
  refine X_astI (show (xup xYf 72 (some (sInts 200))) 65 = some (sInts 24) from rfl) (ixin (ixA (ixM (show (4 : Int32) = nI 4 from rfl) (show nI tc = nI tc from rfl)) (show (2 : Int32) = nI 2 from rfl)) (show 4 * tc + 2 < 24 by omega) (by decide)) d_Model_text_77 ?_
  rw [ixcl (x := (4 * (nI tc)) + 2) (ixA (ixM (show (4 : Int32) = nI 4 from rfl) (show nI tc = nI tc from rfl)) (show (2 : Int32) = nI 2 from rfl)) (show 4 * tc + 2 < 2 ^ 31 by omega)]
  rw [zw65h]
  refine X_iload_n d_Model_text_78 rfl rfl ?_
  refine X_if_eq (tgt := 93) d_Model_text_79 (by decide) (fun _ => ?_) (fun c_5 => absurd c_5 (by decide))
  refine X_iconst (v := 0) d_Model_text_93 rfl ?_
  refine X_istore_n d_Model_text_94 rfl (by decide) [1, 0, 2] (L' := [(0, .ref (xg G 59)), (1, .int 0), (2, .int 2)]) rfl ?_
  refine X_iinc d_Model_text_95 rfl (v := 3) rfl (by decide) [1, 2, 0] (L' := [(0, .ref (xg G 59)), (1, .int 0), (2, .int 3)]) rfl ?_
  refine X_goto (tgt := 26) d_Model_text_98 (by decide) ?_
  refine X_iload_n d_Model_text_26 rfl rfl ?_
  refine X_iconst (v := 3) d_Model_text_27 rfl ?_
  refine X_icmp_ge (tgt := 101) d_Model_text_28 (by decide) (fun _ => ?_) (fun c_6 => absurd c_6 (by decide))
  refine X_iload_n d_Model_text_101 rfl rfl ?_
  refine X_if_eq (tgt := 122) d_Model_text_102 (by decide) (fun _ => ?_) (fun c_7 => absurd c_7 (by decide))
  refine X_aload_n d_Model_text_122 rfl rfl ?_
  refine X_getR (r := 65) fg_Model_25 (show (xup xYf 72 (some (sInts 200))) 59 = some sModel from rfl) rfl d_Model_text_123 ?_
  refine X_iconst (v := 4) d_Model_text_126 rfl ?_
  refine X_aload_n d_Model_text_127 rfl rfl ?_
  refine X_getI (v := nI tc) fg_Model_70 (show (xup xYf 72 (some (sInts 200))) 59 = some sModel from rfl) rfl ((congrFun (xup_s _ _ _) _).trans ((zS_o _ _ _ _ _ _ _ _ (by decide)).trans (h8))) d_Model_text_128 ?_
  refine X_imul d_Model_text_131 ?_
  refine X_iconst (v := 3) d_Model_text_132 rfl ?_
  refine X_iadd d_Model_text_133 ?_
  refine X_aload_n d_Model_text_134 rfl rfl ?_
  refine X_getI (v := nI cs.length) fg_Model_96 (show (xup xYf 72 (some (sInts 200))) 59 = some sModel from rfl) rfl ((congrFun (xup_s _ _ _) _).trans (zS_26 _ _ _ _ _ _ _ _)) d_Model_text_135 ?_
  refine X_astI (show (xup xYf 72 (some (sInts 200))) 65 = some (sInts 24) from rfl) (ixin (ixA (ixM (show (4 : Int32) = nI 4 from rfl) (show nI tc = nI tc from rfl)) (show (3 : Int32) = nI 3 from rfl)) (show 4 * tc + 3 < 24 by omega) (by decide)) d_Model_text_138 ?_
  rw [ixcl (x := (4 * (nI tc)) + 3) (ixA (ixM (show (4 : Int32) = nI 4 from rfl) (show nI tc = nI tc from rfl)) (show (3 : Int32) = nI 3 from rfl)) (show 4 * tc + 3 < 2 ^ 31 by omega)]
  rw [zw65h]
  refine X_aload_n d_Model_text_139 rfl rfl ?_
  refine X_iconst (v := 0) d_Model_text_140 rfl ?_
  refine X_putI fp_Model_55 (show (xup xYf 72 (some (sInts 200))) 59 = some sModel from rfl) rfl d_Model_text_141 ?_
  rw [xw_rec]
  rw [zSs_o _ _ _ _ _ _ _ _ _ (by decide)]
  refine X_iload_n d_Model_text_144 rfl rfl ?_
  refine X_if_ne (tgt := 156) d_Model_text_145 (by decide) (fun c_8 => absurd c_8 (by decide)) (fun _ => ?_)
  refine X_bipush (v := -100) d_Model_text_148 rfl ?_
  refine X_aload_n d_Model_text_150 rfl rfl ?_
  refine X_getI (v := nI (zBl (J 63) n p)) fg_Model_83 (show (xup xYf 72 (some (sInts 200))) 59 = some sModel from rfl) rfl ((congrFun (xup_s _ _ _) _).trans (zS_19 _ _ _ _ _ _ _ _)) d_Model_text_151 ?_
  refine X_isub d_Model_text_154 ?_
  exact X_iret rfl rfl (xle_72 (J := xup (xup (xup (xw (xw J 65 (4 * tc + 2) (nI cs.length)) 65 (4 * tc + 3) (nI cs.length)) 64 (zC (200 * tc) cs (J 64))) 72 H) 59 (zS (xup (J 59) 5 0) (nI (vNx (J 63) n (zBl (J 63) n p))) (nI (zBl (J 63) n p)) 3 v1 hm o (nI cs.length))) (I := xup (xup (xw (xw J 65 (4 * tc + 2) (nI cs.length)) 65 (4 * tc + 3) (nI cs.length)) 64 (zC (200 * tc) cs (J 64))) 59 (zS (xup (J 59) 5 0) (nI (vNx (J 63) n (zBl (J 63) n p))) (nI (zBl (J 63) n p)) 3 v1 hm o (nI cs.length))) H (fun k hk => by simp only [xup_ap, if_neg hk])) d_Model_text_155
theorem t_E_2 (l : Launch) (G : xG) {d : Nat} (nn : Nat) (hd : 5 ≤ d) (J : xI) (tc : Nat) (h8 : J 59 8 = nI tc) (htc : tc < 6) (n : Nat) (h5 : J 59 5 = nI n) (hn : n ≤ 160) (hB : ∀ j, j < n → ¬ J 63 j < 0) (p : Nat) (hp : p ≤ n) (cs : List Int32) (hl : cs.length ≤ p) (b t v hm o : Int32) (htk : zTk (J 71) (J 63) n (zBl (J 63) n p) = 3) (hva : zVa (J 71) (J 63) n (zBl (J 63) n p) = 2) (r : Bool × Nat × List Int32 × Int32 × List Int32) (hr : zE (J 71) (J 63) n (vNx (J 63) n (zBl (J 63) n p)) cs = r) (hr1 : r.1 = false) : Qt l G d nn J tc 2 p cs b t v hm o ((-100) - (nI (zBl (J 63) n r.2.1))) (xup (xup (xw (xw J 65 (4 * tc + 2) (nI cs.length)) 65 (4 * tc + 3) (nI r.2.2.2.2.length)) 64 (zC (200 * tc) r.2.2.2.2 (J 64))) 59 (zS (xup (J 59) 5 0) (nI (vNx (J 63) n (zBl (J 63) n r.2.1))) (nI (zBl (J 63) n r.2.1)) (zTk (J 71) (J 63) n (zBl (J 63) n r.2.1)) (zVa (J 71) (J 63) n (zBl (J 63) n r.2.1)) (nI r.2.2.1.length) r.2.2.2.1 (nI r.2.2.2.2.length))) := by
  unfold Qt
  have hbl := zBl_b (J 63) hp
  have hqn : zBl (J 63) n p < n := Nat.lt_of_not_le (fun z => by have e0 := zTk_0 (wd := J 71) (g := J 63) z; rw [htk] at e0; exact absurd e0 (by decide))
  have hx := vNx_b hB hn hqn
  refine X_iload_n d_Model_text_26 rfl rfl ?_
  refine X_iconst (v := 3) d_Model_text_27 rfl ?_
  refine X_icmp_ge (tgt := 101) d_Model_text_28 (by decide) (fun c_1 => absurd c_1 (by decide)) (fun _ => ?_)
  refine X_iload_n d_Model_text_31 rfl rfl ?_
  refine X_if_eq (tgt := 101) d_Model_text_32 (by decide) (fun c_2 => absurd c_2 (by decide)) (fun _ => ?_)
  refine X_aload_n d_Model_text_35 rfl rfl ?_
  refine X_knowI (a := 72) (by decide) rfl (fun H => ?_)
  rw [xup_comm (xup J 64 (zC (200 * tc) cs (J 64))) _ _ (show (59 : Nat) ≠ 72 by decide)]
  refine X_callVv (rest := []) (by have q0 := c_Model_next l G nn (d := d - 1) (by omega) J n h5 hn (zC (200 * tc) cs (J 64)) H b t v hm o (nI cs.length) hB p hp; rw [show rRun bBlank (J 63) n 160 p = (zBl (J 63) n p) from rfl, htk, hva] at q0; exact q0) lk_Model_next ml_Model_119 (xm_obj (show (xup xYf 72 (some (sInts 200))) 59 = some sModel from rfl)) rfl rfl (Nat.le_of_ble_eq_true rfl) (xRok (d' := d - 1) (by omega) (by decide)) ⟨Nat.le_refl _, Nat.le_refl _⟩ d_Model_text_36 rfl ?_
  refine X_aload_n d_Model_text_39 rfl rfl ?_
  refine X_getI (v := 3) fg_Model_86 (show (xup xYf 72 (some (sInts 200))) 59 = some sModel from rfl) rfl ((congrFun (xup_s _ _ _) _).trans (zS_20 _ _ _ _ _ _ _ _)) d_Model_text_40 ?_
  refine X_iconst (v := 3) d_Model_text_43 rfl ?_
  refine X_icmp_ne (tgt := 59) d_Model_text_44 (by decide) (fun c_3 => absurd c_3 (by decide)) (fun _ => ?_)
  refine X_aload_n d_Model_text_47 rfl rfl ?_
  refine X_getI (v := 2) fg_Model_89 (show (xup xYf 72 (some (sInts 200))) 59 = some sModel from rfl) rfl ((congrFun (xup_s _ _ _) _).trans (zS_21 _ _ _ _ _ _ _ _)) d_Model_text_48 ?_
  refine X_iload_n d_Model_text_51 rfl rfl ?_
  refine X_icmp_ne (tgt := 59) d_Model_text_52 (by decide) (fun c_4 => absurd c_4 (by decide)) (fun _ => ?_)
  refine X_iconst (v := 1) d_Model_text_55 rfl ?_
  refine X_goto (tgt := 60) d_Model_text_56 (by decide) ?_
  refine X_istore_n d_Model_text_60 rfl (by decide) [1, 0, 2] (L' := [(0, .ref (xg G 59)), (1, .int 1), (2, .int 2)]) rfl ?_
  refine X_aload_n d_Model_text_61 rfl rfl ?_
  refine X_getR (r := 65) fg_Model_25 (show (xup xYf 72 (some (sInts 200))) 59 = some sModel from rfl) rfl d_Model_text_62 ?_
  refine X_iconst (v := 4) d_Model_text_65 rfl ?_
  refine X_aload_n d_Model_text_66 rfl rfl ?_
  refine X_getI (v := nI tc) fg_Model_70 (show (xup xYf 72 (some (sInts 200))) 59 = some sModel from rfl) rfl ((congrFun (xup_s _ _ _) _).trans ((zS_o _ _ _ _ _ _ _ _ (by decide)).trans (h8))) d_Model_text_67 ?_
  refine X_imul d_Model_text_70 ?_
  refine X_iload_n d_Model_text_71 rfl rfl ?_
  refine X_iadd d_Model_text_72 ?_
  refine X_aload_n d_Model_text_73 rfl rfl ?_
  refine X_getI (v := nI cs.length) fg_Model_96 (show (xup xYf 72 (some (sInts 200))) 59 = some sModel from rfl) rfl ((congrFun (xup_s _ _ _) _).trans (zS_26 _ _ _ _ _ _ _ _)) d_Model_text_74 ?_
  refine X_astI (show (xup xYf 72 (some (sInts 200))) 65 = some (sInts 24) from rfl) (ixin (ixA (ixM (show (4 : Int32) = nI 4 from rfl) (show nI tc = nI tc from rfl)) (show (2 : Int32) = nI 2 from rfl)) (show 4 * tc + 2 < 24 by omega) (by decide)) d_Model_text_77 ?_
  rw [ixcl (x := (4 * (nI tc)) + 2) (ixA (ixM (show (4 : Int32) = nI 4 from rfl) (show nI tc = nI tc from rfl)) (show (2 : Int32) = nI 2 from rfl)) (show 4 * tc + 2 < 2 ^ 31 by omega)]
  rw [zw65h]
  refine X_iload_n d_Model_text_78 rfl rfl ?_
  refine X_if_eq (tgt := 93) d_Model_text_79 (by decide) (fun c_5 => absurd c_5 (by decide)) (fun _ => ?_)
  refine X_aload_n d_Model_text_82 rfl rfl ?_
  have e59 : (xw J 65 (4 * tc + 2) (nI cs.length)) 59 = J 59 := xw_row _ _ _ (by decide)
  have e63 : (xw J 65 (4 * tc + 2) (nI cs.length)) 63 = J 63 := xw_row _ _ _ (by decide)
  have e64 : (xw J 65 (4 * tc + 2) (nI cs.length)) 64 = J 64 := xw_row _ _ _ (by decide)
  have e71 : (xw J 65 (4 * tc + 2) (nI cs.length)) 71 = J 71 := xw_row _ _ _ (by decide)
  have q0 := c_Model_eRead l G nn (d := d - 1) (by omega) (xw J 65 (4 * tc + 2) (nI cs.length)) tc (by rw [e59]; exact h8) htc n (by rw [e59]; exact h5) hn (by rw [e63]; exact hB) (vNx (J 63) n (zBl (J 63) n p)) hx.2 cs (by omega) (nI (zBl (J 63) n p)) 3 2 hm o H r (by rw [e63, e71]; exact hr)
  rw [e59, e63, e64, e71, hr1, show xb false = 0 from rfl] at q0
  refine X_callV (v := .int 0) (rest := []) q0 lk_Model_eRead ml_Model_132 (xm_obj (show xYf 59 = some sModel from rfl)) rfl rfl (Nat.le_of_ble_eq_true rfl) (xRok (d' := d - 1) (by omega) (by decide)) ⟨Nat.le_refl _, Nat.le_refl _⟩ d_Model_text_83 rfl ?_
  refine X_if_eq (tgt := 93) d_Model_text_86 (by decide) (fun _ => ?_) (fun c_6 => absurd c_6 (by decide))
  refine X_iconst (v := 0) d_Model_text_93 rfl ?_
  refine X_istore_n d_Model_text_94 rfl (by decide) [1, 0, 2] (L' := [(0, .ref (xg G 59)), (1, .int 0), (2, .int 2)]) rfl ?_
  refine X_iinc d_Model_text_95 rfl (v := 3) rfl (by decide) [1, 2, 0] (L' := [(0, .ref (xg G 59)), (1, .int 0), (2, .int 3)]) rfl ?_
  refine X_goto (tgt := 26) d_Model_text_98 (by decide) ?_
  refine X_iload_n d_Model_text_26 rfl rfl ?_
  refine X_iconst (v := 3) d_Model_text_27 rfl ?_
  refine X_icmp_ge (tgt := 101) d_Model_text_28 (by decide) (fun _ => ?_) (fun c_7 => absurd c_7 (by decide))
  refine X_iload_n d_Model_text_101 rfl rfl ?_
  refine X_if_eq (tgt := 122) d_Model_text_102 (by decide) (fun _ => ?_) (fun c_8 => absurd c_8 (by decide))
  refine X_aload_n d_Model_text_122 rfl rfl ?_
  refine X_getR (r := 65) fg_Model_25 (show xYf 59 = some sModel from rfl) rfl d_Model_text_123 ?_
  refine X_iconst (v := 4) d_Model_text_126 rfl ?_
  refine X_aload_n d_Model_text_127 rfl rfl ?_
  refine X_getI (v := nI tc) fg_Model_70 (show xYf 59 = some sModel from rfl) rfl ((congrFun (xup_s _ _ _) _).trans ((zS_o _ _ _ _ _ _ _ _ (by decide)).trans (h8))) d_Model_text_128 ?_
  refine X_imul d_Model_text_131 ?_
  refine X_iconst (v := 3) d_Model_text_132 rfl ?_
  refine X_iadd d_Model_text_133 ?_
  refine X_aload_n d_Model_text_134 rfl rfl ?_
  refine X_getI (v := nI r.2.2.2.2.length) fg_Model_96 (show xYf 59 = some sModel from rfl) rfl ((congrFun (xup_s _ _ _) _).trans (zS_26 _ _ _ _ _ _ _ _)) d_Model_text_135 ?_
  refine X_astI (show xYf 65 = some (sInts 24) from rfl) (ixin (ixA (ixM (show (4 : Int32) = nI 4 from rfl) (show nI tc = nI tc from rfl)) (show (3 : Int32) = nI 3 from rfl)) (show 4 * tc + 3 < 24 by omega) (by decide)) d_Model_text_138 ?_
  rw [ixcl (x := (4 * (nI tc)) + 3) (ixA (ixM (show (4 : Int32) = nI 4 from rfl) (show nI tc = nI tc from rfl)) (show (3 : Int32) = nI 3 from rfl)) (show 4 * tc + 3 < 2 ^ 31 by omega)]
  rw [zw65]
  refine X_aload_n d_Model_text_139 rfl rfl ?_
  refine X_iconst (v := 0) d_Model_text_140 rfl ?_
  refine X_putI fp_Model_55 (show xYf 59 = some sModel from rfl) rfl d_Model_text_141 ?_
  rw [xw_rec]
  rw [zSs_o _ _ _ _ _ _ _ _ _ (by decide)]
  refine X_iload_n d_Model_text_144 rfl rfl ?_
  refine X_if_ne (tgt := 156) d_Model_text_145 (by decide) (fun c_9 => absurd c_9 (by decide)) (fun _ => ?_)
  refine X_bipush (v := -100) d_Model_text_148 rfl ?_
  refine X_aload_n d_Model_text_150 rfl rfl ?_
  refine X_getI (v := nI (zBl (J 63) n r.2.1)) fg_Model_83 (show xYf 59 = some sModel from rfl) rfl ((congrFun (xup_s _ _ _) _).trans (zS_19 _ _ _ _ _ _ _ _)) d_Model_text_151 ?_
  refine X_isub d_Model_text_154 ?_
  exact X_iret rfl rfl (xle_rf _) d_Model_text_155
theorem t_G_2 (l : Launch) (G : xG) {d : Nat} (nn : Nat) (hd : 5 ≤ d) (J : xI) (tc : Nat) (h8 : J 59 8 = nI tc) (htc : tc < 6) (n : Nat) (h5 : J 59 5 = nI n) (hn : n ≤ 160) (hB : ∀ j, j < n → ¬ J 63 j < 0) (p : Nat) (hp : p ≤ n) (cs : List Int32) (hl : cs.length ≤ p) (b t v hm o : Int32) (htk : zTk (J 71) (J 63) n (zBl (J 63) n p) = 3) (hva : zVa (J 71) (J 63) n (zBl (J 63) n p) = 2) (r : Bool × Nat × List Int32 × Int32 × List Int32) (hr : zE (J 71) (J 63) n (vNx (J 63) n (zBl (J 63) n p)) cs = r) (hr1 : r.1 = true) (ans : Int32) (J' : xI) (ih : Qt l G d nn (xw J 65 (4 * tc + 2) (nI cs.length)) tc 3 (vNx (J 63) n (zBl (J 63) n r.2.1)) r.2.2.2.2 (nI (zBl (J 63) n r.2.1)) (zTk (J 71) (J 63) n (zBl (J 63) n r.2.1)) (zVa (J 71) (J 63) n (zBl (J 63) n r.2.1)) (nI r.2.2.1.length) r.2.2.2.1 ans J') : Qt l G d nn J tc 2 p cs b t v hm o ans J' := by
  unfold Qt
  have hbl := zBl_b (J 63) hp
  have hqn : zBl (J 63) n p < n := Nat.lt_of_not_le (fun z => by have e0 := zTk_0 (wd := J 71) (g := J 63) z; rw [htk] at e0; exact absurd e0 (by decide))
  have hx := vNx_b hB hn hqn
  refine X_iload_n d_Model_text_26 rfl rfl ?_
  refine X_iconst (v := 3) d_Model_text_27 rfl ?_
  refine X_icmp_ge (tgt := 101) d_Model_text_28 (by decide) (fun c_1 => absurd c_1 (by decide)) (fun _ => ?_)
  refine X_iload_n d_Model_text_31 rfl rfl ?_
  refine X_if_eq (tgt := 101) d_Model_text_32 (by decide) (fun c_2 => absurd c_2 (by decide)) (fun _ => ?_)
  refine X_aload_n d_Model_text_35 rfl rfl ?_
  refine X_knowI (a := 72) (by decide) rfl (fun H => ?_)
  rw [xup_comm (xup J 64 (zC (200 * tc) cs (J 64))) _ _ (show (59 : Nat) ≠ 72 by decide)]
  refine X_callVv (rest := []) (by have q0 := c_Model_next l G nn (d := d - 1) (by omega) J n h5 hn (zC (200 * tc) cs (J 64)) H b t v hm o (nI cs.length) hB p hp; rw [show rRun bBlank (J 63) n 160 p = (zBl (J 63) n p) from rfl, htk, hva] at q0; exact q0) lk_Model_next ml_Model_119 (xm_obj (show (xup xYf 72 (some (sInts 200))) 59 = some sModel from rfl)) rfl rfl (Nat.le_of_ble_eq_true rfl) (xRok (d' := d - 1) (by omega) (by decide)) ⟨Nat.le_refl _, Nat.le_refl _⟩ d_Model_text_36 rfl ?_
  refine X_aload_n d_Model_text_39 rfl rfl ?_
  refine X_getI (v := 3) fg_Model_86 (show (xup xYf 72 (some (sInts 200))) 59 = some sModel from rfl) rfl ((congrFun (xup_s _ _ _) _).trans (zS_20 _ _ _ _ _ _ _ _)) d_Model_text_40 ?_
  refine X_iconst (v := 3) d_Model_text_43 rfl ?_
  refine X_icmp_ne (tgt := 59) d_Model_text_44 (by decide) (fun c_3 => absurd c_3 (by decide)) (fun _ => ?_)
  refine X_aload_n d_Model_text_47 rfl rfl ?_
  refine X_getI (v := 2) fg_Model_89 (show (xup xYf 72 (some (sInts 200))) 59 = some sModel from rfl) rfl ((congrFun (xup_s _ _ _) _).trans (zS_21 _ _ _ _ _ _ _ _)) d_Model_text_48 ?_
  refine X_iload_n d_Model_text_51 rfl rfl ?_
  refine X_icmp_ne (tgt := 59) d_Model_text_52 (by decide) (fun c_4 => absurd c_4 (by decide)) (fun _ => ?_)
  refine X_iconst (v := 1) d_Model_text_55 rfl ?_
  refine X_goto (tgt := 60) d_Model_text_56 (by decide) ?_
  refine X_istore_n d_Model_text_60 rfl (by decide) [1, 0, 2] (L' := [(0, .ref (xg G 59)), (1, .int 1), (2, .int 2)]) rfl ?_
  refine X_aload_n d_Model_text_61 rfl rfl ?_
  refine X_getR (r := 65) fg_Model_25 (show (xup xYf 72 (some (sInts 200))) 59 = some sModel from rfl) rfl d_Model_text_62 ?_
  refine X_iconst (v := 4) d_Model_text_65 rfl ?_
  refine X_aload_n d_Model_text_66 rfl rfl ?_
  refine X_getI (v := nI tc) fg_Model_70 (show (xup xYf 72 (some (sInts 200))) 59 = some sModel from rfl) rfl ((congrFun (xup_s _ _ _) _).trans ((zS_o _ _ _ _ _ _ _ _ (by decide)).trans (h8))) d_Model_text_67 ?_
  refine X_imul d_Model_text_70 ?_
  refine X_iload_n d_Model_text_71 rfl rfl ?_
  refine X_iadd d_Model_text_72 ?_
  refine X_aload_n d_Model_text_73 rfl rfl ?_
  refine X_getI (v := nI cs.length) fg_Model_96 (show (xup xYf 72 (some (sInts 200))) 59 = some sModel from rfl) rfl ((congrFun (xup_s _ _ _) _).trans (zS_26 _ _ _ _ _ _ _ _)) d_Model_text_74 ?_
  refine X_astI (show (xup xYf 72 (some (sInts 200))) 65 = some (sInts 24) from rfl) (ixin (ixA (ixM (show (4 : Int32) = nI 4 from rfl) (show nI tc = nI tc from rfl)) (show (2 : Int32) = nI 2 from rfl)) (show 4 * tc + 2 < 24 by omega) (by decide)) d_Model_text_77 ?_
  rw [ixcl (x := (4 * (nI tc)) + 2) (ixA (ixM (show (4 : Int32) = nI 4 from rfl) (show nI tc = nI tc from rfl)) (show (2 : Int32) = nI 2 from rfl)) (show 4 * tc + 2 < 2 ^ 31 by omega)]
  rw [zw65h]
  refine X_iload_n d_Model_text_78 rfl rfl ?_
  refine X_if_eq (tgt := 93) d_Model_text_79 (by decide) (fun c_5 => absurd c_5 (by decide)) (fun _ => ?_)
  refine X_aload_n d_Model_text_82 rfl rfl ?_
  have e59 : (xw J 65 (4 * tc + 2) (nI cs.length)) 59 = J 59 := xw_row _ _ _ (by decide)
  have e63 : (xw J 65 (4 * tc + 2) (nI cs.length)) 63 = J 63 := xw_row _ _ _ (by decide)
  have e64 : (xw J 65 (4 * tc + 2) (nI cs.length)) 64 = J 64 := xw_row _ _ _ (by decide)
  have e71 : (xw J 65 (4 * tc + 2) (nI cs.length)) 71 = J 71 := xw_row _ _ _ (by decide)
  have q0 := c_Model_eRead l G nn (d := d - 1) (by omega) (xw J 65 (4 * tc + 2) (nI cs.length)) tc (by rw [e59]; exact h8) htc n (by rw [e59]; exact h5) hn (by rw [e63]; exact hB) (vNx (J 63) n (zBl (J 63) n p)) hx.2 cs (by omega) (nI (zBl (J 63) n p)) 3 2 hm o H r (by rw [e63, e71]; exact hr)
  rw [e59, e63, e64, e71, hr1, show xb true = 1 from rfl] at q0
  refine X_callV (v := .int 1) (rest := []) q0 lk_Model_eRead ml_Model_132 (xm_obj (show xYf 59 = some sModel from rfl)) rfl rfl (Nat.le_of_ble_eq_true rfl) (xRok (d' := d - 1) (by omega) (by decide)) ⟨Nat.le_refl _, Nat.le_refl _⟩ d_Model_text_83 rfl ?_
  refine X_if_eq (tgt := 93) d_Model_text_86 (by decide) (fun c_6 => absurd c_6 (by decide)) (fun _ => ?_)
  refine X_iconst (v := 1) d_Model_text_89 rfl ?_
  refine X_goto (tgt := 94) d_Model_text_90 (by decide) ?_
  refine X_istore_n d_Model_text_94 rfl (by decide) [1, 0, 2] (L' := [(0, .ref (xg G 59)), (1, .int 1), (2, .int 2)]) rfl ?_
  refine X_iinc d_Model_text_95 rfl (v := 3) rfl (by decide) [1, 2, 0] (L' := [(0, .ref (xg G 59)), (1, .int 1), (2, .int 3)]) rfl ?_
  refine X_goto (tgt := 26) d_Model_text_98 (by decide) ?_
  unfold Qt at ih
  rw [e59, e64] at ih
  exact ih
theorem t_F (l : Launch) (G : xG) {d : Nat} (nn : Nat) (hd : 5 ≤ d) (J : xI) (tc : Nat) (h8 : J 59 8 = nI tc) (htc : tc < 6) (n : Nat) (h5 : J 59 5 = nI n) (hn : n ≤ 160) (hB : ∀ j, j < n → ¬ J 63 j < 0) (p : Nat) (hp : p ≤ n) (cs : List Int32) (hl : cs.length ≤ p) (b t v hm o : Int32) (tk v1 : Int32) (htk : zTk (J 71) (J 63) n (zBl (J 63) n p) = tk) (hva : zVa (J 71) (J 63) n (zBl (J 63) n p) = v1) (hn0 : ¬ tk = 0) : Qt l G d nn J tc 3 p cs b t v hm o ((-100) - (nI (zBl (J 63) n p))) (xup (xup (xw J 65 (4 * tc + 3) (nI cs.length)) 64 (zC (200 * tc) cs (J 64))) 59 (zS (xup (J 59) 5 0) (nI (vNx (J 63) n (zBl (J 63) n p))) (nI (zBl (J 63) n p)) tk v1 hm o (nI cs.length))) := by
  unfold Qt
  refine X_iload_n d_Model_text_26 rfl rfl ?_
  refine X_iconst (v := 3) d_Model_text_27 rfl ?_
  refine X_icmp_ge (tgt := 101) d_Model_text_28 (by decide) (fun _ => ?_) (fun c_1 => absurd c_1 (by decide))
  refine X_iload_n d_Model_text_101 rfl rfl ?_
  refine X_if_eq (tgt := 122) d_Model_text_102 (by decide) (fun c_2 => absurd c_2 (by decide)) (fun _ => ?_)
  refine X_aload_n d_Model_text_105 rfl rfl ?_
  refine X_knowI (a := 72) (by decide) rfl (fun H => ?_)
  rw [xup_comm (xup J 64 (zC (200 * tc) cs (J 64))) _ _ (show (59 : Nat) ≠ 72 by decide)]
  refine X_callVv (rest := []) (by have q0 := c_Model_next l G nn (d := d - 1) (by omega) J n h5 hn (zC (200 * tc) cs (J 64)) H b t v hm o (nI cs.length) hB p hp; rw [show rRun bBlank (J 63) n 160 p = (zBl (J 63) n p) from rfl, htk, hva] at q0; exact q0) lk_Model_next ml_Model_119 (xm_obj (show (xup xYf 72 (some (sInts 200))) 59 = some sModel from rfl)) rfl rfl (Nat.le_of_ble_eq_true rfl) (xRok (d' := d - 1) (by omega) (by decide)) ⟨Nat.le_refl _, Nat.le_refl _⟩ d_Model_text_106 rfl ?_
  refine X_aload_n d_Model_text_109 rfl rfl ?_
  refine X_getI (v := tk) fg_Model_86 (show (xup xYf 72 (some (sInts 200))) 59 = some sModel from rfl) rfl ((congrFun (xup_s _ _ _) _).trans (zS_20 _ _ _ _ _ _ _ _)) d_Model_text_110 ?_
  refine X_if_ne (tgt := 120) d_Model_text_113 (by decide) (fun _ => ?_) (fun c_3 => absurd c_3 hn0)
  refine X_iconst (v := 0) d_Model_text_120 rfl ?_
  refine X_istore_n d_Model_text_121 rfl (by decide) [1, 0, 2] (L' := [(0, .ref (xg G 59)), (1, .int 0), (2, .int 3)]) rfl ?_
  refine X_aload_n d_Model_text_122 rfl rfl ?_
  refine X_getR (r := 65) fg_Model_25 (show (xup xYf 72 (some (sInts 200))) 59 = some sModel from rfl) rfl d_Model_text_123 ?_
  refine X_iconst (v := 4) d_Model_text_126 rfl ?_
  refine X_aload_n d_Model_text_127 rfl rfl ?_
  refine X_getI (v := nI tc) fg_Model_70 (show (xup xYf 72 (some (sInts 200))) 59 = some sModel from rfl) rfl ((congrFun (xup_s _ _ _) _).trans ((zS_o _ _ _ _ _ _ _ _ (by decide)).trans (h8))) d_Model_text_128 ?_
  refine X_imul d_Model_text_131 ?_
  refine X_iconst (v := 3) d_Model_text_132 rfl ?_
  refine X_iadd d_Model_text_133 ?_
  refine X_aload_n d_Model_text_134 rfl rfl ?_
  refine X_getI (v := nI cs.length) fg_Model_96 (show (xup xYf 72 (some (sInts 200))) 59 = some sModel from rfl) rfl ((congrFun (xup_s _ _ _) _).trans (zS_26 _ _ _ _ _ _ _ _)) d_Model_text_135 ?_
  refine X_astI (show (xup xYf 72 (some (sInts 200))) 65 = some (sInts 24) from rfl) (ixin (ixA (ixM (show (4 : Int32) = nI 4 from rfl) (show nI tc = nI tc from rfl)) (show (3 : Int32) = nI 3 from rfl)) (show 4 * tc + 3 < 24 by omega) (by decide)) d_Model_text_138 ?_
  rw [ixcl (x := (4 * (nI tc)) + 3) (ixA (ixM (show (4 : Int32) = nI 4 from rfl) (show nI tc = nI tc from rfl)) (show (3 : Int32) = nI 3 from rfl)) (show 4 * tc + 3 < 2 ^ 31 by omega)]
  rw [zw65h]
  refine X_aload_n d_Model_text_139 rfl rfl ?_
  refine X_iconst (v := 0) d_Model_text_140 rfl ?_
  refine X_putI fp_Model_55 (show (xup xYf 72 (some (sInts 200))) 59 = some sModel from rfl) rfl d_Model_text_141 ?_
  rw [xw_rec]
  rw [zSs_o _ _ _ _ _ _ _ _ _ (by decide)]
  refine X_iload_n d_Model_text_144 rfl rfl ?_
  refine X_if_ne (tgt := 156) d_Model_text_145 (by decide) (fun c_4 => absurd c_4 (by decide)) (fun _ => ?_)
  refine X_bipush (v := -100) d_Model_text_148 rfl ?_
  refine X_aload_n d_Model_text_150 rfl rfl ?_
  refine X_getI (v := nI (zBl (J 63) n p)) fg_Model_83 (show (xup xYf 72 (some (sInts 200))) 59 = some sModel from rfl) rfl ((congrFun (xup_s _ _ _) _).trans (zS_19 _ _ _ _ _ _ _ _)) d_Model_text_151 ?_
  refine X_isub d_Model_text_154 ?_
  exact X_iret rfl rfl (xle_72 (J := xup (xup (xup (xw J 65 (4 * tc + 3) (nI cs.length)) 64 (zC (200 * tc) cs (J 64))) 72 H) 59 (zS (xup (J 59) 5 0) (nI (vNx (J 63) n (zBl (J 63) n p))) (nI (zBl (J 63) n p)) tk v1 hm o (nI cs.length))) (I := xup (xup (xw J 65 (4 * tc + 3) (nI cs.length)) 64 (zC (200 * tc) cs (J 64))) 59 (zS (xup (J 59) 5 0) (nI (vNx (J 63) n (zBl (J 63) n p))) (nI (zBl (J 63) n p)) tk v1 hm o (nI cs.length))) H (fun k hk => by simp only [xup_ap, if_neg hk])) d_Model_text_155
theorem t_S (l : Launch) (G : xG) {d : Nat} (nn : Nat) (hd : 5 ≤ d) (J : xI) (tc : Nat) (h8 : J 59 8 = nI tc) (htc : tc < 6) (n : Nat) (h5 : J 59 5 = nI n) (hn : n ≤ 160) (hB : ∀ j, j < n → ¬ J 63 j < 0) (p : Nat) (hp : p ≤ n) (cs : List Int32) (hl : cs.length ≤ p) (b t v hm o : Int32) (v1 : Int32) (htk : zTk (J 71) (J 63) n (zBl (J 63) n p) = 0) (hva : zVa (J 71) (J 63) n (zBl (J 63) n p) = v1) : Qt l G d nn J tc 3 p cs b t v hm o (((nI tc) + 1) - 1) (xup (xup (xw J 65 (4 * tc + 3) (nI cs.length)) 64 (zC (200 * tc) cs (J 64))) 59 (zS (xup (xup (J 59) 5 0) 8 ((nI tc) + 1)) (nI (vNx (J 63) n (zBl (J 63) n p))) (nI (zBl (J 63) n p)) 0 v1 hm o (nI cs.length))) := by
  unfold Qt
  refine X_iload_n d_Model_text_26 rfl rfl ?_
  refine X_iconst (v := 3) d_Model_text_27 rfl ?_
  refine X_icmp_ge (tgt := 101) d_Model_text_28 (by decide) (fun _ => ?_) (fun c_1 => absurd c_1 (by decide))
  refine X_iload_n d_Model_text_101 rfl rfl ?_
  refine X_if_eq (tgt := 122) d_Model_text_102 (by decide) (fun c_2 => absurd c_2 (by decide)) (fun _ => ?_)
  refine X_aload_n d_Model_text_105 rfl rfl ?_
  refine X_knowI (a := 72) (by decide) rfl (fun H => ?_)
  rw [xup_comm (xup J 64 (zC (200 * tc) cs (J 64))) _ _ (show (59 : Nat) ≠ 72 by decide)]
  refine X_callVv (rest := []) (by have q0 := c_Model_next l G nn (d := d - 1) (by omega) J n h5 hn (zC (200 * tc) cs (J 64)) H b t v hm o (nI cs.length) hB p hp; rw [show rRun bBlank (J 63) n 160 p = (zBl (J 63) n p) from rfl, htk, hva] at q0; exact q0) lk_Model_next ml_Model_119 (xm_obj (show (xup xYf 72 (some (sInts 200))) 59 = some sModel from rfl)) rfl rfl (Nat.le_of_ble_eq_true rfl) (xRok (d' := d - 1) (by omega) (by decide)) ⟨Nat.le_refl _, Nat.le_refl _⟩ d_Model_text_106 rfl ?_
  refine X_aload_n d_Model_text_109 rfl rfl ?_
  refine X_getI (v := 0) fg_Model_86 (show (xup xYf 72 (some (sInts 200))) 59 = some sModel from rfl) rfl ((congrFun (xup_s _ _ _) _).trans (zS_20 _ _ _ _ _ _ _ _)) d_Model_text_110 ?_
  refine X_if_ne (tgt := 120) d_Model_text_113 (by decide) (fun c_3 => absurd c_3 (by decide)) (fun _ => ?_)
  refine X_iconst (v := 1) d_Model_text_116 rfl ?_
  refine X_goto (tgt := 121) d_Model_text_117 (by decide) ?_
  refine X_istore_n d_Model_text_121 rfl (by decide) [1, 0, 2] (L' := [(0, .ref (xg G 59)), (1, .int 1), (2, .int 3)]) rfl ?_
  refine X_aload_n d_Model_text_122 rfl rfl ?_
  refine X_getR (r := 65) fg_Model_25 (show (xup xYf 72 (some (sInts 200))) 59 = some sModel from rfl) rfl d_Model_text_123 ?_
  refine X_iconst (v := 4) d_Model_text_126 rfl ?_
  refine X_aload_n d_Model_text_127 rfl rfl ?_
  refine X_getI (v := nI tc) fg_Model_70 (show (xup xYf 72 (some (sInts 200))) 59 = some sModel from rfl) rfl ((congrFun (xup_s _ _ _) _).trans ((zS_o _ _ _ _ _ _ _ _ (by decide)).trans (h8))) d_Model_text_128 ?_
  refine X_imul d_Model_text_131 ?_
  refine X_iconst (v := 3) d_Model_text_132 rfl ?_
  refine X_iadd d_Model_text_133 ?_
  refine X_aload_n d_Model_text_134 rfl rfl ?_
  refine X_getI (v := nI cs.length) fg_Model_96 (show (xup xYf 72 (some (sInts 200))) 59 = some sModel from rfl) rfl ((congrFun (xup_s _ _ _) _).trans (zS_26 _ _ _ _ _ _ _ _)) d_Model_text_135 ?_
  refine X_astI (show (xup xYf 72 (some (sInts 200))) 65 = some (sInts 24) from rfl) (ixin (ixA (ixM (show (4 : Int32) = nI 4 from rfl) (show nI tc = nI tc from rfl)) (show (3 : Int32) = nI 3 from rfl)) (show 4 * tc + 3 < 24 by omega) (by decide)) d_Model_text_138 ?_
  rw [ixcl (x := (4 * (nI tc)) + 3) (ixA (ixM (show (4 : Int32) = nI 4 from rfl) (show nI tc = nI tc from rfl)) (show (3 : Int32) = nI 3 from rfl)) (show 4 * tc + 3 < 2 ^ 31 by omega)]
  rw [zw65h]
  refine X_aload_n d_Model_text_139 rfl rfl ?_
  refine X_iconst (v := 0) d_Model_text_140 rfl ?_
  refine X_putI fp_Model_55 (show (xup xYf 72 (some (sInts 200))) 59 = some sModel from rfl) rfl d_Model_text_141 ?_
  rw [xw_rec]
  rw [zSs_o _ _ _ _ _ _ _ _ _ (by decide)]
  refine X_iload_n d_Model_text_144 rfl rfl ?_
  refine X_if_ne (tgt := 156) d_Model_text_145 (by decide) (fun _ => ?_) (fun c_4 => absurd c_4 (by decide))
  refine X_aload_n d_Model_text_156 rfl rfl ?_
  refine X_dup d_Model_text_157 rfl ?_
  refine X_getI (v := nI tc) fg_Model_70 (show (xup xYf 72 (some (sInts 200))) 59 = some sModel from rfl) rfl ((congrFun (xup_s _ _ _) _).trans (((zS_o _ _ _ _ _ _ _ _ (by decide)).trans (xup_n _ _ (by decide))).trans (h8))) d_Model_text_158 ?_
  refine X_iconst (v := 1) d_Model_text_161 rfl ?_
  refine X_iadd d_Model_text_162 ?_
  refine X_putI fp_Model_70 (show (xup xYf 72 (some (sInts 200))) 59 = some sModel from rfl) rfl d_Model_text_163 ?_
  rw [xw_rec]
  rw [zSs_o _ _ _ _ _ _ _ _ _ (by decide)]
  refine X_aload_n d_Model_text_166 rfl rfl ?_
  refine X_getI (v := (nI tc) + 1) fg_Model_70 (show (xup xYf 72 (some (sInts 200))) 59 = some sModel from rfl) rfl ((congrFun (xup_s _ _ _) _).trans ((zS_o _ _ _ _ _ _ _ _ (by decide)).trans (xup_s _ _ _))) d_Model_text_167 ?_
  refine X_iconst (v := 1) d_Model_text_170 rfl ?_
  refine X_isub d_Model_text_171 ?_
  exact X_iret rfl rfl (xle_72 (J := xup (xup (xup (xw J 65 (4 * tc + 3) (nI cs.length)) 64 (zC (200 * tc) cs (J 64))) 72 H) 59 (zS (xup (xup (J 59) 5 0) 8 ((nI tc) + 1)) (nI (vNx (J 63) n (zBl (J 63) n p))) (nI (zBl (J 63) n p)) 0 v1 hm o (nI cs.length))) (I := xup (xup (xw J 65 (4 * tc + 3) (nI cs.length)) 64 (zC (200 * tc) cs (J 64))) 59 (zS (xup (xup (J 59) 5 0) 8 ((nI tc) + 1)) (nI (vNx (J 63) n (zBl (J 63) n p))) (nI (zBl (J 63) n p)) 0 v1 hm o (nI cs.length))) H (fun k hk => by simp only [xup_ap, if_neg hk])) d_Model_text_172
