/-- the model's own numbers as it reads: where it is, where the token began, the token, its value, how many are held, how many open, how many came -/
def zS (r : Nat → Int32) (at_ bg tk va hm op ou : Int32) : Nat → Int32 := xup (xup (xup (xup (xup (xup (xup r 18 at_) 19 bg) 20 tk) 21 va) 24 hm) 25 op) 26 ou
theorem zS_o (r : Nat → Int32) (at_ bg tk va hm op ou : Int32) {k : Nat} (h : k < 18) : zS r at_ bg tk va hm op ou k = r k := by simp only [zS, xup]; grind
theorem zS_18 (r : Nat → Int32) (at_ bg tk va hm op ou : Int32) : zS r at_ bg tk va hm op ou 18 = at_ := by simp [zS, xup]
theorem zSs_18 (r : Nat → Int32) (at_ bg tk va hm op ou v : Int32) : xup (zS r at_ bg tk va hm op ou) 18 v = zS r v bg tk va hm op ou := by funext k; simp only [zS, xup]; grind
theorem zS_19 (r : Nat → Int32) (at_ bg tk va hm op ou : Int32) : zS r at_ bg tk va hm op ou 19 = bg := by simp [zS, xup]
theorem zSs_19 (r : Nat → Int32) (at_ bg tk va hm op ou v : Int32) : xup (zS r at_ bg tk va hm op ou) 19 v = zS r at_ v tk va hm op ou := by funext k; simp only [zS, xup]; grind
theorem zS_20 (r : Nat → Int32) (at_ bg tk va hm op ou : Int32) : zS r at_ bg tk va hm op ou 20 = tk := by simp [zS, xup]
theorem zSs_20 (r : Nat → Int32) (at_ bg tk va hm op ou v : Int32) : xup (zS r at_ bg tk va hm op ou) 20 v = zS r at_ bg v va hm op ou := by funext k; simp only [zS, xup]; grind
theorem zS_21 (r : Nat → Int32) (at_ bg tk va hm op ou : Int32) : zS r at_ bg tk va hm op ou 21 = va := by simp [zS, xup]
theorem zSs_21 (r : Nat → Int32) (at_ bg tk va hm op ou v : Int32) : xup (zS r at_ bg tk va hm op ou) 21 v = zS r at_ bg tk v hm op ou := by funext k; simp only [zS, xup]; grind
theorem zS_24 (r : Nat → Int32) (at_ bg tk va hm op ou : Int32) : zS r at_ bg tk va hm op ou 24 = hm := by simp [zS, xup]
theorem zSs_24 (r : Nat → Int32) (at_ bg tk va hm op ou v : Int32) : xup (zS r at_ bg tk va hm op ou) 24 v = zS r at_ bg tk va v op ou := by funext k; simp only [zS, xup]; grind
theorem zS_25 (r : Nat → Int32) (at_ bg tk va hm op ou : Int32) : zS r at_ bg tk va hm op ou 25 = op := by simp [zS, xup]
theorem zSs_25 (r : Nat → Int32) (at_ bg tk va hm op ou v : Int32) : xup (zS r at_ bg tk va hm op ou) 25 v = zS r at_ bg tk va hm v ou := by funext k; simp only [zS, xup]; grind
theorem zS_26 (r : Nat → Int32) (at_ bg tk va hm op ou : Int32) : zS r at_ bg tk va hm op ou 26 = ou := by simp [zS, xup]
theorem zSs_26 (r : Nat → Int32) (at_ bg tk va hm op ou v : Int32) : xup (zS r at_ bg tk va hm op ou) 26 v = zS r at_ bg tk va hm op v := by funext k; simp only [zS, xup]; grind
def zRank (s : Int32) : Int32 := if s = 0 then 0 else if s = 11 then 1 else if s = 12 then 2 else if s = 13 then 3 else if s ≤ 15 then 4 else if s ≤ 17 then 5 else if s = 18 then 6 else 7
def zSg (t : Int32) : Int32 := if t = 4 then 11 else if t = 5 then 12 else if t = 60 then 14 else if t = 61 then 15 else if t = 43 then 16 else if t = 45 then 17 else if t = 42 then 18 else -1
def zUn (r : Int32) : List Int32 → Int32 → List Int32 → List Int32 × Int32 × List Int32
  | [], o, cs => ([], o, cs)
  | s :: K, o, cs => if r ≤ zRank s then zUn r K (o - (if s = 13 ∨ s = 19 then 1 else 0)) (cs ++ [s]) else (s :: K, o, cs)
def zBad (s : Int32) (K : List Int32) : Bool := decide (zRank s = 4) && (match K with | [] => false | t :: _ => decide (zRank t = 4))
def zC (b : Nat) (cs : List Int32) (g : Nat → Int32) : Nat → Int32 := fun j => if b ≤ j ∧ j < b + cs.length then cs.getD (j - b) 0 else g j
theorem zC_nil (b : Nat) (g : Nat → Int32) : zC b [] g = g := by
  funext j
  rw [zC, if_neg (by simp)]
theorem zC_app (b : Nat) (cs : List Int32) (g : Nat → Int32) (v : Int32) : xup (zC b cs g) (b + cs.length) v = zC b (cs ++ [v]) g := by
  funext j
  by_cases e : j = b + cs.length
  · subst e
    rw [xup_s, zC, if_pos (by rw [List.length_append]; exact ⟨by omega, by simp⟩), Nat.add_sub_cancel_left, List.getD_eq_getElem?_getD, List.getElem?_append_right (Nat.le_refl _)]
    simp
  · rw [xup_n _ _ e, zC, zC]
    by_cases h : b ≤ j ∧ j < b + cs.length
    · rw [if_pos h, if_pos (by rw [List.length_append]; exact ⟨h.1, by omega⟩), List.getD_eq_getElem?_getD, List.getD_eq_getElem?_getD, List.getElem?_append_left (by omega)]
    · rw [if_neg h, if_neg (fun q => by rw [List.length_append, List.length_singleton] at q; omega)]
theorem xle_72 {G : xG} {I : xI} (H : Nat → Int32) {J : xI} (h : ∀ k, k ≠ 72 → J k = I k) : xle (xm G (xup xYf 72 (some (sInts 200))) J) (xm G xYf I) := by
  refine xle_fg fun k => ?_
  by_cases h72 : k = 72
  · subst h72; exact Or.inr (Or.inl ⟨200, rfl, by decide, rfl⟩)
  · exact Or.inl ⟨by rw [xup_n _ _ h72], h k h72⟩
theorem c_Model_rank (l : Launch) (G : xG) {d : Nat} (nn : Nat) (M : xM) (hd : 1 ≤ d) (s : Int32) : XM l G d y_Model_rank b_Model_rank 1 (some .int) 0 0 xK0 [.int s] nn M (some (.int (zRank s))) nn M := by
  refine XM.of (by decide) (Nat.le_of_ble_eq_true rfl) (L := [(0, .int s)]) rfl ?_
  refine X_iload_n d_Model_rank_0 rfl rfl ?_
  refine X_if_ne (tgt := 8) d_Model_rank_1 (by decide) (fun c_1 => ?_) (fun c_1 => ?_)
  ·
    refine X_iload_n d_Model_rank_8 rfl rfl ?_
    refine X_bipush (v := 11) d_Model_rank_9 rfl ?_
    refine X_icmp_ne (tgt := 18) d_Model_rank_11 (by decide) (fun c_2 => ?_) (fun c_2 => ?_)
    ·
      refine X_iload_n d_Model_rank_18 rfl rfl ?_
      refine X_bipush (v := 12) d_Model_rank_19 rfl ?_
      refine X_icmp_ne (tgt := 28) d_Model_rank_21 (by decide) (fun c_3 => ?_) (fun c_3 => ?_)
      ·
        refine X_iload_n d_Model_rank_28 rfl rfl ?_
        refine X_bipush (v := 13) d_Model_rank_29 rfl ?_
        refine X_icmp_ne (tgt := 38) d_Model_rank_31 (by decide) (fun c_4 => ?_) (fun c_4 => ?_)
        ·
          refine X_iload_n d_Model_rank_38 rfl rfl ?_
          refine X_bipush (v := 15) d_Model_rank_39 rfl ?_
          refine X_icmp_gt (tgt := 48) d_Model_rank_41 (by decide) (fun c_5 => ?_) (fun c_5 => ?_)
          ·
            refine X_iload_n d_Model_rank_48 rfl rfl ?_
            refine X_bipush (v := 17) d_Model_rank_49 rfl ?_
            refine X_icmp_gt (tgt := 58) d_Model_rank_51 (by decide) (fun c_6 => ?_) (fun c_6 => ?_)
            ·
              refine X_iload_n d_Model_rank_58 rfl rfl ?_
              refine X_bipush (v := 18) d_Model_rank_59 rfl ?_
              refine X_icmp_ne (tgt := 69) d_Model_rank_61 (by decide) (fun c_7 => ?_) (fun c_7 => ?_)
              ·
                refine X_bipush (v := 7) d_Model_rank_69 rfl ?_
                exact X_iret rfl (congrArg (fun q => some (Value.int q)) (by simp [zRank, c_1, c_2, c_3, c_4, c_5, Int32.not_le.mpr c_5, c_6, Int32.not_le.mpr c_6, c_7])) (xle_rf _) d_Model_rank_71
              ·
                refine X_bipush (v := 6) d_Model_rank_64 rfl ?_
                refine X_goto (tgt := 71) d_Model_rank_66 (by decide) ?_
                exact X_iret rfl (congrArg (fun q => some (Value.int q)) (by simp [zRank, c_1, c_2, c_3, c_4, c_5, Int32.not_le.mpr c_5, c_6, Int32.not_le.mpr c_6, c_7])) (xle_rf _) d_Model_rank_71
            ·
              refine X_iconst (v := 5) d_Model_rank_54 rfl ?_
              refine X_goto (tgt := 71) d_Model_rank_55 (by decide) ?_
              exact X_iret rfl (congrArg (fun q => some (Value.int q)) (by simp [zRank, c_1, c_2, c_3, c_4, c_5, Int32.not_le.mpr c_5, c_6, Int32.not_lt.mp c_6])) (xle_rf _) d_Model_rank_71
          ·
            refine X_iconst (v := 4) d_Model_rank_44 rfl ?_
            refine X_goto (tgt := 71) d_Model_rank_45 (by decide) ?_
            exact X_iret rfl (congrArg (fun q => some (Value.int q)) (by simp [zRank, c_1, c_2, c_3, c_4, c_5, Int32.not_lt.mp c_5])) (xle_rf _) d_Model_rank_71
        ·
          refine X_iconst (v := 3) d_Model_rank_34 rfl ?_
          refine X_goto (tgt := 71) d_Model_rank_35 (by decide) ?_
          exact X_iret rfl (congrArg (fun q => some (Value.int q)) (by simp [zRank, c_1, c_2, c_3, c_4])) (xle_rf _) d_Model_rank_71
      ·
        refine X_iconst (v := 2) d_Model_rank_24 rfl ?_
        refine X_goto (tgt := 71) d_Model_rank_25 (by decide) ?_
        exact X_iret rfl (congrArg (fun q => some (Value.int q)) (by simp [zRank, c_1, c_2, c_3])) (xle_rf _) d_Model_rank_71
    ·
      refine X_iconst (v := 1) d_Model_rank_14 rfl ?_
      refine X_goto (tgt := 71) d_Model_rank_15 (by decide) ?_
      exact X_iret rfl (congrArg (fun q => some (Value.int q)) (by simp [zRank, c_1, c_2])) (xle_rf _) d_Model_rank_71
  ·
    refine X_iconst (v := 0) d_Model_rank_4 rfl ?_
    refine X_goto (tgt := 71) d_Model_rank_5 (by decide) ?_
    exact X_iret rfl (congrArg (fun q => some (Value.int q)) (by simp [zRank, c_1])) (xle_rf _) d_Model_rank_71
theorem c_Model_signOf (l : Launch) (G : xG) {d : Nat} (nn : Nat) (hd : 1 ≤ d) (I : xI) (tc : Nat) (h8 : I 59 8 = nI tc) (htc : tc < 6) (a b t v : Int32) (H : Nat → Int32) (K : List Int32) (o : Int32) (cs : List Int32)  : XM l G d y_Model_signOf b_Model_signOf 1 (some .int) 0 0 xK0 [.ref (xg G 59)] nn (xm G (xup xYf 72 (some (sInts 200))) (xup (xup (xup I 64 (zC (200 * tc) cs (I 64))) 72 H) 59 (zS (I 59) a b t v (nI K.length) o (nI cs.length)))) (some (.int (zSg t))) nn (xm G (xup xYf 72 (some (sInts 200))) (xup (xup (xup I 64 (zC (200 * tc) cs (I 64))) 72 H) 59 (zS (I 59) a b t v (nI K.length) o (nI cs.length)))) := by
  refine XM.of (by decide) (Nat.le_of_ble_eq_true rfl) (L := [(0, .ref (xg G 59))]) rfl ?_
  refine X_aload_n d_Model_signOf_0 rfl rfl ?_
  refine X_getI (v := t) fg_Model_86 (show (xup xYf 72 (some (sInts 200))) 59 = some sModel from rfl) rfl ((congrFun (xup_s _ _ _) _).trans (zS_20 _ _ _ _ _ _ _ _)) d_Model_signOf_1 ?_
  refine X_iconst (v := 4) d_Model_signOf_4 rfl ?_
  refine X_icmp_ne (tgt := 13) d_Model_signOf_5 (by decide) (fun c_1 => ?_) (fun c_1 => ?_)
  ·
    refine X_aload_n d_Model_signOf_13 rfl rfl ?_
    refine X_getI (v := t) fg_Model_86 (show (xup xYf 72 (some (sInts 200))) 59 = some sModel from rfl) rfl ((congrFun (xup_s _ _ _) _).trans (zS_20 _ _ _ _ _ _ _ _)) d_Model_signOf_14 ?_
    refine X_iconst (v := 5) d_Model_signOf_17 rfl ?_
    refine X_icmp_ne (tgt := 26) d_Model_signOf_18 (by decide) (fun c_2 => ?_) (fun c_2 => ?_)
    ·
      refine X_aload_n d_Model_signOf_26 rfl rfl ?_
      refine X_getI (v := t) fg_Model_86 (show (xup xYf 72 (some (sInts 200))) 59 = some sModel from rfl) rfl ((congrFun (xup_s _ _ _) _).trans (zS_20 _ _ _ _ _ _ _ _)) d_Model_signOf_27 ?_
      refine X_bipush (v := 60) d_Model_signOf_30 rfl ?_
      refine X_icmp_ne (tgt := 40) d_Model_signOf_32 (by decide) (fun c_3 => ?_) (fun c_3 => ?_)
      ·
        refine X_aload_n d_Model_signOf_40 rfl rfl ?_
        refine X_getI (v := t) fg_Model_86 (show (xup xYf 72 (some (sInts 200))) 59 = some sModel from rfl) rfl ((congrFun (xup_s _ _ _) _).trans (zS_20 _ _ _ _ _ _ _ _)) d_Model_signOf_41 ?_
        refine X_bipush (v := 61) d_Model_signOf_44 rfl ?_
        refine X_icmp_ne (tgt := 54) d_Model_signOf_46 (by decide) (fun c_4 => ?_) (fun c_4 => ?_)
        ·
          refine X_aload_n d_Model_signOf_54 rfl rfl ?_
          refine X_getI (v := t) fg_Model_86 (show (xup xYf 72 (some (sInts 200))) 59 = some sModel from rfl) rfl ((congrFun (xup_s _ _ _) _).trans (zS_20 _ _ _ _ _ _ _ _)) d_Model_signOf_55 ?_
          refine X_bipush (v := 43) d_Model_signOf_58 rfl ?_
          refine X_icmp_ne (tgt := 68) d_Model_signOf_60 (by decide) (fun c_5 => ?_) (fun c_5 => ?_)
          ·
            refine X_aload_n d_Model_signOf_68 rfl rfl ?_
            refine X_getI (v := t) fg_Model_86 (show (xup xYf 72 (some (sInts 200))) 59 = some sModel from rfl) rfl ((congrFun (xup_s _ _ _) _).trans (zS_20 _ _ _ _ _ _ _ _)) d_Model_signOf_69 ?_
            refine X_bipush (v := 45) d_Model_signOf_72 rfl ?_
            refine X_icmp_ne (tgt := 82) d_Model_signOf_74 (by decide) (fun c_6 => ?_) (fun c_6 => ?_)
            ·
              refine X_aload_n d_Model_signOf_82 rfl rfl ?_
              refine X_getI (v := t) fg_Model_86 (show (xup xYf 72 (some (sInts 200))) 59 = some sModel from rfl) rfl ((congrFun (xup_s _ _ _) _).trans (zS_20 _ _ _ _ _ _ _ _)) d_Model_signOf_83 ?_
              refine X_bipush (v := 42) d_Model_signOf_86 rfl ?_
              refine X_icmp_ne (tgt := 96) d_Model_signOf_88 (by decide) (fun c_7 => ?_) (fun c_7 => ?_)
              ·
                refine X_iconst (v := -1) d_Model_signOf_96 rfl ?_
                exact X_iret rfl (congrArg (fun q => some (Value.int q)) (by simp [zSg, c_1, c_2, c_3, c_4, c_5, c_6, c_7])) (xle_rf _) d_Model_signOf_97
              ·
                refine X_bipush (v := 18) d_Model_signOf_91 rfl ?_
                refine X_goto (tgt := 97) d_Model_signOf_93 (by decide) ?_
                exact X_iret rfl (congrArg (fun q => some (Value.int q)) (by simp [zSg, c_1, c_2, c_3, c_4, c_5, c_6, c_7])) (xle_rf _) d_Model_signOf_97
            ·
              refine X_bipush (v := 17) d_Model_signOf_77 rfl ?_
              refine X_goto (tgt := 97) d_Model_signOf_79 (by decide) ?_
              exact X_iret rfl (congrArg (fun q => some (Value.int q)) (by simp [zSg, c_1, c_2, c_3, c_4, c_5, c_6])) (xle_rf _) d_Model_signOf_97
          ·
            refine X_bipush (v := 16) d_Model_signOf_63 rfl ?_
            refine X_goto (tgt := 97) d_Model_signOf_65 (by decide) ?_
            exact X_iret rfl (congrArg (fun q => some (Value.int q)) (by simp [zSg, c_1, c_2, c_3, c_4, c_5])) (xle_rf _) d_Model_signOf_97
        ·
          refine X_bipush (v := 15) d_Model_signOf_49 rfl ?_
          refine X_goto (tgt := 97) d_Model_signOf_51 (by decide) ?_
          exact X_iret rfl (congrArg (fun q => some (Value.int q)) (by simp [zSg, c_1, c_2, c_3, c_4])) (xle_rf _) d_Model_signOf_97
      ·
        refine X_bipush (v := 14) d_Model_signOf_35 rfl ?_
        refine X_goto (tgt := 97) d_Model_signOf_37 (by decide) ?_
        exact X_iret rfl (congrArg (fun q => some (Value.int q)) (by simp [zSg, c_1, c_2, c_3])) (xle_rf _) d_Model_signOf_97
    ·
      refine X_bipush (v := 12) d_Model_signOf_21 rfl ?_
      refine X_goto (tgt := 97) d_Model_signOf_23 (by decide) ?_
      exact X_iret rfl (congrArg (fun q => some (Value.int q)) (by simp [zSg, c_1, c_2])) (xle_rf _) d_Model_signOf_97
  ·
    refine X_bipush (v := 11) d_Model_signOf_8 rfl ?_
    refine X_goto (tgt := 97) d_Model_signOf_10 (by decide) ?_
    exact X_iret rfl (congrArg (fun q => some (Value.int q)) (by simp [zSg, c_1])) (xle_rf _) d_Model_signOf_97
theorem c_Model_puts (l : Launch) (G : xG) {d : Nat} (nn : Nat) (hd : 1 ≤ d) (I : xI) (tc : Nat) (h8 : I 59 8 = nI tc) (htc : tc < 6) (a b t v : Int32) (H : Nat → Int32) (K : List Int32) (o : Int32) (cs : List Int32) (x : Int32) (hb : cs.length < 200) : XM l G d y_Model_puts b_Model_puts 2 (none) 0 0 xK0 [.ref (xg G 59), .int x] nn (xm G (xup xYf 72 (some (sInts 200))) (xup (xup (xup I 64 (zC (200 * tc) cs (I 64))) 72 H) 59 (zS (I 59) a b t v (nI K.length) o (nI cs.length)))) (none) nn (xm G (xup xYf 72 (some (sInts 200))) (xup (xup (xup I 64 (zC (200 * tc) (cs ++ [x]) (I 64))) 72 H) 59 (zS (I 59) a b t v (nI K.length) o (nI (cs ++ [x]).length)))) := by
  refine XM.of (by decide) (Nat.le_of_ble_eq_true rfl) (L := [(0, .ref (xg G 59)), (1, .int x)]) rfl ?_
  refine X_aload_n d_Model_puts_0 rfl rfl ?_
  refine X_getR (r := 64) fg_Model_22 (show (xup xYf 72 (some (sInts 200))) 59 = some sModel from rfl) rfl d_Model_puts_1 ?_
  refine X_sipush (v := 200) d_Model_puts_4 rfl ?_
  refine X_aload_n d_Model_puts_7 rfl rfl ?_
  refine X_getI (v := nI tc) fg_Model_70 (show (xup xYf 72 (some (sInts 200))) 59 = some sModel from rfl) rfl ((congrFun (xup_s _ _ _) _).trans ((zS_o _ _ _ _ _ _ _ _ (by decide)).trans (h8))) d_Model_puts_8 ?_
  refine X_imul d_Model_puts_11 ?_
  refine X_aload_n d_Model_puts_12 rfl rfl ?_
  refine X_getI (v := nI cs.length) fg_Model_96 (show (xup xYf 72 (some (sInts 200))) 59 = some sModel from rfl) rfl ((congrFun (xup_s _ _ _) _).trans (zS_26 _ _ _ _ _ _ _ _)) d_Model_puts_13 ?_
  refine X_iadd d_Model_puts_16 ?_
  refine X_iload_n d_Model_puts_17 rfl rfl ?_
  refine X_astI (show (xup xYf 72 (some (sInts 200))) 64 = some (sInts 1200) from rfl) (ixin (ixA (ixM (show (200 : Int32) = nI 200 from rfl) (show nI tc = nI tc from rfl)) (show nI cs.length = nI cs.length from rfl)) (show 200 * tc + cs.length < 1200 by omega) (by decide)) d_Model_puts_18 ?_
  rw [ixcl (x := (200 * (nI tc)) + (nI cs.length)) (ixA (ixM (show (200 : Int32) = nI 200 from rfl) (show nI tc = nI tc from rfl)) (show nI cs.length = nI cs.length from rfl)) (show 200 * tc + cs.length < 2 ^ 31 by omega)]
  rw [xw_recab _ _ _ _ (show (72 : Nat) ≠ 64 by decide) (show (59 : Nat) ≠ 64 by decide)]
  refine X_aload_n d_Model_puts_19 rfl rfl ?_
  refine X_dup d_Model_puts_20 rfl ?_
  refine X_getI (v := nI cs.length) fg_Model_96 (show (xup xYf 72 (some (sInts 200))) 59 = some sModel from rfl) rfl ((congrFun (xup_s _ _ _) _).trans (zS_26 _ _ _ _ _ _ _ _)) d_Model_puts_21 ?_
  refine X_iconst (v := 1) d_Model_puts_24 rfl ?_
  refine X_iadd d_Model_puts_25 ?_
  refine X_putI fp_Model_96 (show (xup xYf 72 (some (sInts 200))) 59 = some sModel from rfl) rfl d_Model_puts_26 ?_
  rw [xw_rec]
  rw [zSs_26]
  rw [zC_app, show nI cs.length + 1 = nI (cs ++ [x]).length from by rw [nI_1, List.length_append]; rfl]
  exact X_vret rfl rfl (xle_rf _) d_Model_puts_29
theorem c_Model_holds (l : Launch) (G : xG) {d : Nat} (nn : Nat) (hd : 1 ≤ d) (I : xI) (tc : Nat) (h8 : I 59 8 = nI tc) (htc : tc < 6) (a b t v : Int32) (H : Nat → Int32) (K : List Int32) (o : Int32) (cs : List Int32) (x : Int32) (hb : K.length < 200) : XM l G d y_Model_holds b_Model_holds 2 (none) 0 0 xK0 [.ref (xg G 59), .int x] nn (xm G (xup xYf 72 (some (sInts 200))) (xup (xup (xup I 64 (zC (200 * tc) cs (I 64))) 72 H) 59 (zS (I 59) a b t v (nI K.length) o (nI cs.length)))) (none) nn (xm G (xup xYf 72 (some (sInts 200))) (xup (xup (xup I 64 (zC (200 * tc) cs (I 64))) 72 (xup H K.length x)) 59 (zS (I 59) a b t v (nI (x :: K).length) o (nI cs.length)))) := by
  refine XM.of (by decide) (Nat.le_of_ble_eq_true rfl) (L := [(0, .ref (xg G 59)), (1, .int x)]) rfl ?_
  refine X_aload_n d_Model_holds_0 rfl rfl ?_
  refine X_getR (r := 72) fg_Model_46 (show (xup xYf 72 (some (sInts 200))) 59 = some sModel from rfl) rfl d_Model_holds_1 ?_
  refine X_aload_n d_Model_holds_4 rfl rfl ?_
  refine X_getI (v := nI K.length) fg_Model_99 (show (xup xYf 72 (some (sInts 200))) 59 = some sModel from rfl) rfl ((congrFun (xup_s _ _ _) _).trans (zS_24 _ _ _ _ _ _ _ _)) d_Model_holds_5 ?_
  refine X_iload_n d_Model_holds_8 rfl rfl ?_
  refine X_astI (show (xup xYf 72 (some (sInts 200))) 72 = some (sInts 200) from rfl) (ixin (show nI K.length = nI K.length from rfl) (show K.length < 200 by omega) (by decide)) d_Model_holds_9 ?_
  rw [ixcl (x := nI K.length) (show nI K.length = nI K.length from rfl) (show K.length < 2 ^ 31 by omega)]
  rw [xw_reca _ _ _ (show (59 : Nat) ≠ 72 by decide)]
  refine X_aload_n d_Model_holds_10 rfl rfl ?_
  refine X_dup d_Model_holds_11 rfl ?_
  refine X_getI (v := nI K.length) fg_Model_99 (show (xup xYf 72 (some (sInts 200))) 59 = some sModel from rfl) rfl ((congrFun (xup_s _ _ _) _).trans (zS_24 _ _ _ _ _ _ _ _)) d_Model_holds_12 ?_
  refine X_iconst (v := 1) d_Model_holds_15 rfl ?_
  refine X_iadd d_Model_holds_16 ?_
  refine X_putI fp_Model_99 (show (xup xYf 72 (some (sInts 200))) 59 = some sModel from rfl) rfl d_Model_holds_17 ?_
  rw [xw_rec]
  rw [zSs_24]
  rw [show nI K.length + 1 = nI (x :: K).length from by rw [nI_1]; rfl]
  exact X_vret rfl rfl (xle_rf _) d_Model_holds_20
theorem c_Model_opensOne (l : Launch) (G : xG) {d : Nat} (nn : Nat) (hd : 2 ≤ d) (I : xI) (tc : Nat) (h8 : I 59 8 = nI tc) (htc : tc < 6) (a b t v : Int32) (H : Nat → Int32) (K : List Int32) (o : Int32) (cs : List Int32) (x : Int32) (hb : K.length < 200) (ho : ¬ o = 5) : XM l G d y_Model_opensOne b_Model_opensOne 2 (some .boolean) 0 0 xK0 [.ref (xg G 59), .int x] nn (xm G (xup xYf 72 (some (sInts 200))) (xup (xup (xup I 64 (zC (200 * tc) cs (I 64))) 72 H) 59 (zS (I 59) a b t v (nI K.length) o (nI cs.length)))) (some (.int 1)) nn (xm G (xup xYf 72 (some (sInts 200))) (xup (xup (xup I 64 (zC (200 * tc) cs (I 64))) 72 (xup H K.length x)) 59 (zS (I 59) a b t v (nI (x :: K).length) (o + 1) (nI cs.length)))) := by
  refine XM.of (by decide) (Nat.le_of_ble_eq_true rfl) (L := [(0, .ref (xg G 59)), (1, .int x)]) rfl ?_
  refine X_aload_n d_Model_opensOne_0 rfl rfl ?_
  refine X_getI (v := o) fg_Model_106 (show (xup xYf 72 (some (sInts 200))) 59 = some sModel from rfl) rfl ((congrFun (xup_s _ _ _) _).trans (zS_25 _ _ _ _ _ _ _ _)) d_Model_opensOne_1 ?_
  refine X_iconst (v := 5) d_Model_opensOne_4 rfl ?_
  refine X_icmp_ne (tgt := 10) d_Model_opensOne_5 (by decide) (fun _ => ?_) (fun c_1 => absurd c_1 ho)
  refine X_aload_n d_Model_opensOne_10 rfl rfl ?_
  refine X_dup d_Model_opensOne_11 rfl ?_
  refine X_getI (v := o) fg_Model_106 (show (xup xYf 72 (some (sInts 200))) 59 = some sModel from rfl) rfl ((congrFun (xup_s _ _ _) _).trans (zS_25 _ _ _ _ _ _ _ _)) d_Model_opensOne_12 ?_
  refine X_iconst (v := 1) d_Model_opensOne_15 rfl ?_
  refine X_iadd d_Model_opensOne_16 ?_
  refine X_putI fp_Model_106 (show (xup xYf 72 (some (sInts 200))) 59 = some sModel from rfl) rfl d_Model_opensOne_17 ?_
  rw [xw_rec]
  rw [zSs_25]
  refine X_aload_n d_Model_opensOne_20 rfl rfl ?_
  refine X_iload_n d_Model_opensOne_21 rfl rfl ?_
  refine X_callVv (rest := []) (c_Model_holds l G nn (by omega) I tc h8 htc a b t v H K (o + 1) cs x hb) lk_Model_holds ml_Model_113 (xm_obj (show (xup xYf 72 (some (sInts 200))) 59 = some sModel from rfl)) rfl rfl (Nat.le_of_ble_eq_true rfl) (xRok (d' := d - 1) (by omega) (by decide)) ⟨Nat.le_refl _, Nat.le_refl _⟩ d_Model_opensOne_22 rfl ?_
  refine X_iconst (v := 1) d_Model_opensOne_25 rfl ?_
  exact X_zret rfl rfl rfl (xle_rf _) d_Model_opensOne_26
theorem c_Model_opensNo (l : Launch) (G : xG) {d : Nat} (nn : Nat) (hd : 2 ≤ d) (I : xI) (tc : Nat) (h8 : I 59 8 = nI tc) (htc : tc < 6) (a b t v : Int32) (H : Nat → Int32) (K : List Int32) (o : Int32) (cs : List Int32) (x : Int32) (ho : o = 5) : XM l G d y_Model_opensOne b_Model_opensOne 2 (some .boolean) 0 0 xK0 [.ref (xg G 59), .int x] nn (xm G (xup xYf 72 (some (sInts 200))) (xup (xup (xup I 64 (zC (200 * tc) cs (I 64))) 72 H) 59 (zS (I 59) a b t v (nI K.length) o (nI cs.length)))) (some (.int 0)) nn (xm G (xup xYf 72 (some (sInts 200))) (xup (xup (xup I 64 (zC (200 * tc) cs (I 64))) 72 H) 59 (zS (I 59) a b t v (nI K.length) o (nI cs.length)))) := by
  refine XM.of (by decide) (Nat.le_of_ble_eq_true rfl) (L := [(0, .ref (xg G 59)), (1, .int x)]) rfl ?_
  refine X_aload_n d_Model_opensOne_0 rfl rfl ?_
  refine X_getI (v := o) fg_Model_106 (show (xup xYf 72 (some (sInts 200))) 59 = some sModel from rfl) rfl ((congrFun (xup_s _ _ _) _).trans (zS_25 _ _ _ _ _ _ _ _)) d_Model_opensOne_1 ?_
  refine X_iconst (v := 5) d_Model_opensOne_4 rfl ?_
  refine X_icmp_ne (tgt := 10) d_Model_opensOne_5 (by decide) (fun c_1 => absurd c_1 (fun z => z ho)) (fun _ => ?_)
  refine X_iconst (v := 0) d_Model_opensOne_8 rfl ?_
  exact X_zret rfl rfl rfl (xle_rf _) d_Model_opensOne_9
def Q_Model_unwinds (l : Launch) (G : xG) (d nn : Nat) (I : xI) (tc : Nat) (a b t v : Int32) (H : Nat → Int32) (r : Int32) (K : List Int32) (o : Int32) (cs : List Int32) : Prop := XW l G (xR d 0 0) y_Model_unwinds b_Model_unwinds 3 none xK0 (xZ G nn (xm G (xup xYf 72 (some (sInts 200))) (xup (xup (xup I 64 (zC (200 * tc) (zUn r K o cs).2.2 (I 64))) 72 H) 59 (zS (I 59) a b t v (nI (zUn r K o cs).1.length) (zUn r K o cs).2.1 (nI (zUn r K o cs).2.2.length)))) none 0 0) nn (xm G (xup xYf 72 (some (sInts 200))) (xup (xup (xup I 64 (zC (200 * tc) cs (I 64))) 72 H) 59 (zS (I 59) a b t v (nI K.length) o (nI cs.length)))) 0 0 0 [(0, .ref (xg G 59)), (1, .int r)] []
theorem w0_Model_unwinds (l : Launch) (G : xG) {d : Nat} (nn : Nat) (hd : 2 ≤ d) (I : xI) (tc : Nat) (h8 : I 59 8 = nI tc) (htc : tc < 6) (a b t v : Int32) (H : Nat → Int32) (r o : Int32) (cs : List Int32) : Q_Model_unwinds l G d nn I tc a b t v H r [] o cs := by
  unfold Q_Model_unwinds
  refine X_aload_n d_Model_unwinds_0 rfl rfl ?_
  refine X_getI (v := nI ([] : List Int32).length) fg_Model_99 (show (xup xYf 72 (some (sInts 200))) 59 = some sModel from rfl) rfl ((congrFun (xup_s _ _ _) _).trans (zS_24 _ _ _ _ _ _ _ _)) d_Model_unwinds_1 ?_
  refine X_if_le (tgt := 79) d_Model_unwinds_4 (by decide) (fun _ => ?_) (fun c_1 => absurd c_1 (not_not_intro (by decide)))
  exact X_vret rfl rfl (xle_rf _) d_Model_unwinds_79
theorem wno_Model_unwinds (l : Launch) (G : xG) {d : Nat} (nn : Nat) (hd : 2 ≤ d) (I : xI) (tc : Nat) (h8 : I 59 8 = nI tc) (htc : tc < 6) (a b t v : Int32) (H : Nat → Int32) (r s : Int32) (K : List Int32) (hH : H K.length = s) (hK : K.length < 200) (o : Int32) (cs : List Int32) (hr : ¬ r ≤ zRank s) : Q_Model_unwinds l G d nn I tc a b t v H r (s :: K) o cs := by
  unfold Q_Model_unwinds
  rw [zUn, if_neg hr]
  rw [show (s :: K).length = K.length + 1 from rfl]
  refine X_aload_n d_Model_unwinds_0 rfl rfl ?_
  refine X_getI (v := nI (K.length + 1)) fg_Model_99 (show (xup xYf 72 (some (sInts 200))) 59 = some sModel from rfl) rfl ((congrFun (xup_s _ _ _) _).trans (zS_24 _ _ _ _ _ _ _ _)) d_Model_unwinds_1 ?_
  refine X_if_le (tgt := 79) d_Model_unwinds_4 (by decide) (fun c_1 => absurd c_1 (fun z => absurd (nI_lt (a := 0) (b := K.length + 1) (by omega) (by omega)) (Int32.not_lt.mpr z))) (fun _ => ?_)
  refine X_aload_n d_Model_unwinds_7 rfl rfl ?_
  refine X_getR (r := 72) fg_Model_46 (show (xup xYf 72 (some (sInts 200))) 59 = some sModel from rfl) rfl d_Model_unwinds_8 ?_
  refine X_aload_n d_Model_unwinds_11 rfl rfl ?_
  refine X_getI (v := nI (K.length + 1)) fg_Model_99 (show (xup xYf 72 (some (sInts 200))) 59 = some sModel from rfl) rfl ((congrFun (xup_s _ _ _) _).trans (zS_24 _ _ _ _ _ _ _ _)) d_Model_unwinds_12 ?_
  refine X_iconst (v := 1) d_Model_unwinds_15 rfl ?_
  refine X_isub d_Model_unwinds_16 ?_
  refine X_aldI (v := s) (show (xup xYf 72 (some (sInts 200))) 72 = some (sInts 200) from rfl) (ixin (ixS (show nI (K.length + 1) = nI (K.length + 1) from rfl)) (show K.length < 200 by omega) (by decide)) ((ixv (ixS (show nI (K.length + 1) = nI (K.length + 1) from rfl)) (show K.length < 2 ^ 31 by omega) (((congrFun (xup_n _ _ (by decide)) _).trans (congrFun (xup_s _ _ _) _)).trans hH))) d_Model_unwinds_17 ?_
  refine X_callS (v := .int (zRank s)) (rest := []) (c_Model_rank l G nn _ (by omega) s) lk_Model_rank ml_Model_102 rfl (Nat.le_of_ble_eq_true rfl) (xRok (d' := d - 1) (by omega) (by decide)) ⟨Nat.le_refl _, Nat.le_refl _⟩ d_Model_unwinds_18 rfl ?_
  refine X_iload_n d_Model_unwinds_21 rfl rfl ?_
  refine X_icmp_lt (tgt := 79) d_Model_unwinds_22 (by decide) (fun _ => ?_) (fun c_2 => absurd c_2 (fun z => z (Int32.not_le.mp hr)))
  exact X_vret rfl rfl (xle_rf _) d_Model_unwinds_79
theorem wy_Model_unwinds (l : Launch) (G : xG) {d : Nat} (nn : Nat) (hd : 2 ≤ d) (I : xI) (tc : Nat) (h8 : I 59 8 = nI tc) (htc : tc < 6) (a b t v : Int32) (H : Nat → Int32) (r s : Int32) (K : List Int32) (hH : H K.length = s) (hK : K.length < 200) (o : Int32) (cs : List Int32) (hr : r ≤ zRank s) (hc : cs.length < 200) (ih : Q_Model_unwinds l G d nn I tc a b t v H r K (o - (if s = 13 ∨ s = 19 then 1 else 0)) (cs ++ [s])) : Q_Model_unwinds l G d nn I tc a b t v H r (s :: K) o cs := by
  unfold Q_Model_unwinds
  rw [zUn, if_pos hr]
  rw [show (s :: K).length = K.length + 1 from rfl]
  refine X_aload_n d_Model_unwinds_0 rfl rfl ?_
  refine X_getI (v := nI (K.length + 1)) fg_Model_99 (show (xup xYf 72 (some (sInts 200))) 59 = some sModel from rfl) rfl ((congrFun (xup_s _ _ _) _).trans (zS_24 _ _ _ _ _ _ _ _)) d_Model_unwinds_1 ?_
  refine X_if_le (tgt := 79) d_Model_unwinds_4 (by decide) (fun c_1 => absurd c_1 (fun z => absurd (nI_lt (a := 0) (b := K.length + 1) (by omega) (by omega)) (Int32.not_lt.mpr z))) (fun _ => ?_)
  refine X_aload_n d_Model_unwinds_7 rfl rfl ?_
  refine X_getR (r := 72) fg_Model_46 (show (xup xYf 72 (some (sInts 200))) 59 = some sModel from rfl) rfl d_Model_unwinds_8 ?_
  refine X_aload_n d_Model_unwinds_11 rfl rfl ?_
  refine X_getI (v := nI (K.length + 1)) fg_Model_99 (show (xup xYf 72 (some (sInts 200))) 59 = some sModel from rfl) rfl ((congrFun (xup_s _ _ _) _).trans (zS_24 _ _ _ _ _ _ _ _)) d_Model_unwinds_12 ?_
  refine X_iconst (v := 1) d_Model_unwinds_15 rfl ?_
  refine X_isub d_Model_unwinds_16 ?_
  refine X_aldI (v := s) (show (xup xYf 72 (some (sInts 200))) 72 = some (sInts 200) from rfl) (ixin (ixS (show nI (K.length + 1) = nI (K.length + 1) from rfl)) (show K.length < 200 by omega) (by decide)) ((ixv (ixS (show nI (K.length + 1) = nI (K.length + 1) from rfl)) (show K.length < 2 ^ 31 by omega) (((congrFun (xup_n _ _ (by decide)) _).trans (congrFun (xup_s _ _ _) _)).trans hH))) d_Model_unwinds_17 ?_
  refine X_callS (v := .int (zRank s)) (rest := []) (c_Model_rank l G nn _ (by omega) s) lk_Model_rank ml_Model_102 rfl (Nat.le_of_ble_eq_true rfl) (xRok (d' := d - 1) (by omega) (by decide)) ⟨Nat.le_refl _, Nat.le_refl _⟩ d_Model_unwinds_18 rfl ?_
  refine X_iload_n d_Model_unwinds_21 rfl rfl ?_
  refine X_icmp_lt (tgt := 79) d_Model_unwinds_22 (by decide) (fun c_2 => absurd c_2 (Int32.not_lt.mpr hr)) (fun _ => ?_)
  refine X_aload_n d_Model_unwinds_25 rfl rfl ?_
  refine X_dup d_Model_unwinds_26 rfl ?_
  refine X_getI (v := nI (K.length + 1)) fg_Model_99 (show (xup xYf 72 (some (sInts 200))) 59 = some sModel from rfl) rfl ((congrFun (xup_s _ _ _) _).trans (zS_24 _ _ _ _ _ _ _ _)) d_Model_unwinds_27 ?_
  refine X_iconst (v := 1) d_Model_unwinds_30 rfl ?_
  refine X_isub d_Model_unwinds_31 ?_
  refine X_putI fp_Model_99 (show (xup xYf 72 (some (sInts 200))) 59 = some sModel from rfl) rfl d_Model_unwinds_32 ?_
  rw [xw_rec]
  rw [zSs_24]
  rw [nI_pred]
  refine X_aload_n d_Model_unwinds_35 rfl rfl ?_
  refine X_getR (r := 72) fg_Model_46 (show (xup xYf 72 (some (sInts 200))) 59 = some sModel from rfl) rfl d_Model_unwinds_36 ?_
  refine X_aload_n d_Model_unwinds_39 rfl rfl ?_
  refine X_getI (v := nI K.length) fg_Model_99 (show (xup xYf 72 (some (sInts 200))) 59 = some sModel from rfl) rfl ((congrFun (xup_s _ _ _) _).trans (zS_24 _ _ _ _ _ _ _ _)) d_Model_unwinds_40 ?_
  refine X_aldI (v := s) (show (xup xYf 72 (some (sInts 200))) 72 = some (sInts 200) from rfl) (ixin (show nI K.length = nI K.length from rfl) (show K.length < 200 by omega) (by decide)) ((ixv (show nI K.length = nI K.length from rfl) (show K.length < 2 ^ 31 by omega) (((congrFun (xup_n _ _ (by decide)) _).trans (congrFun (xup_s _ _ _) _)).trans hH))) d_Model_unwinds_43 ?_
  refine X_istore_n d_Model_unwinds_44 rfl (by decide) [1, 2, 0] (L' := [(0, .ref (xg G 59)), (1, .int r), (2, .int s)]) rfl ?_
  refine X_aload_n d_Model_unwinds_45 rfl rfl ?_
  refine X_dup d_Model_unwinds_46 rfl ?_
  refine X_getI (v := o) fg_Model_106 (show (xup xYf 72 (some (sInts 200))) 59 = some sModel from rfl) rfl ((congrFun (xup_s _ _ _) _).trans (zS_25 _ _ _ _ _ _ _ _)) d_Model_unwinds_47 ?_
  refine X_iload_n d_Model_unwinds_50 rfl rfl ?_
  refine X_bipush (v := 13) d_Model_unwinds_51 rfl ?_
  refine X_icmp_eq (tgt := 62) d_Model_unwinds_53 (by decide) (fun c_3 => ?_) (fun c_3 => ?_)
  ·
    refine X_iconst (v := 1) d_Model_unwinds_62 rfl ?_
    refine X_goto (tgt := 67) d_Model_unwinds_63 (by decide) ?_
    refine X_isub d_Model_unwinds_67 ?_
    refine X_putI fp_Model_106 (show (xup xYf 72 (some (sInts 200))) 59 = some sModel from rfl) rfl d_Model_unwinds_68 ?_
    rw [xw_rec]
    rw [zSs_25]
    refine X_aload_n d_Model_unwinds_71 rfl rfl ?_
    refine X_iload_n d_Model_unwinds_72 rfl rfl ?_
    refine X_callVv (rest := []) (c_Model_puts l G nn (by omega) I tc h8 htc a b t v H K (o - 1) cs s hc) lk_Model_puts ml_Model_109 (xm_obj (show (xup xYf 72 (some (sInts 200))) 59 = some sModel from rfl)) rfl rfl (Nat.le_of_ble_eq_true rfl) (xRok (d' := d - 1) (by omega) (by decide)) ⟨Nat.le_refl _, Nat.le_refl _⟩ d_Model_unwinds_73 rfl ?_
    refine X_goto (tgt := 0) d_Model_unwinds_76 (by decide) ?_
    unfold Q_Model_unwinds at ih
    rw [if_pos (show s = 13 ∨ s = 19 from Or.inl c_3)] at ih ⊢
    refine X_sub [0, 1] (L' := [(0, .ref (xg G 59)), (1, .int r)]) rfl ?_
    exact ih
  ·
    refine X_iload_n d_Model_unwinds_56 rfl rfl ?_
    refine X_bipush (v := 19) d_Model_unwinds_57 rfl ?_
    refine X_icmp_ne (tgt := 66) d_Model_unwinds_59 (by decide) (fun c_4 => ?_) (fun c_4 => ?_)
    ·
      refine X_iconst (v := 0) d_Model_unwinds_66 rfl ?_
      refine X_isub d_Model_unwinds_67 ?_
      refine X_putI fp_Model_106 (show (xup xYf 72 (some (sInts 200))) 59 = some sModel from rfl) rfl d_Model_unwinds_68 ?_
      rw [xw_rec]
      rw [zSs_25]
      refine X_aload_n d_Model_unwinds_71 rfl rfl ?_
      refine X_iload_n d_Model_unwinds_72 rfl rfl ?_
      refine X_callVv (rest := []) (c_Model_puts l G nn (by omega) I tc h8 htc a b t v H K (o - 0) cs s hc) lk_Model_puts ml_Model_109 (xm_obj (show (xup xYf 72 (some (sInts 200))) 59 = some sModel from rfl)) rfl rfl (Nat.le_of_ble_eq_true rfl) (xRok (d' := d - 1) (by omega) (by decide)) ⟨Nat.le_refl _, Nat.le_refl _⟩ d_Model_unwinds_73 rfl ?_
      refine X_goto (tgt := 0) d_Model_unwinds_76 (by decide) ?_
      unfold Q_Model_unwinds at ih
      rw [if_neg (show ¬ (s = 13 ∨ s = 19) from fun z => z.elim c_3 c_4)] at ih ⊢
      refine X_sub [0, 1] (L' := [(0, .ref (xg G 59)), (1, .int r)]) rfl ?_
      exact ih
    ·
      refine X_iconst (v := 1) d_Model_unwinds_62 rfl ?_
      refine X_goto (tgt := 67) d_Model_unwinds_63 (by decide) ?_
      refine X_isub d_Model_unwinds_67 ?_
      refine X_putI fp_Model_106 (show (xup xYf 72 (some (sInts 200))) 59 = some sModel from rfl) rfl d_Model_unwinds_68 ?_
      rw [xw_rec]
      rw [zSs_25]
      refine X_aload_n d_Model_unwinds_71 rfl rfl ?_
      refine X_iload_n d_Model_unwinds_72 rfl rfl ?_
      refine X_callVv (rest := []) (c_Model_puts l G nn (by omega) I tc h8 htc a b t v H K (o - 1) cs s hc) lk_Model_puts ml_Model_109 (xm_obj (show (xup xYf 72 (some (sInts 200))) 59 = some sModel from rfl)) rfl rfl (Nat.le_of_ble_eq_true rfl) (xRok (d' := d - 1) (by omega) (by decide)) ⟨Nat.le_refl _, Nat.le_refl _⟩ d_Model_unwinds_73 rfl ?_
      refine X_goto (tgt := 0) d_Model_unwinds_76 (by decide) ?_
      unfold Q_Model_unwinds at ih
      rw [if_pos (show s = 13 ∨ s = 19 from Or.inr c_4)] at ih ⊢
      refine X_sub [0, 1] (L' := [(0, .ref (xg G 59)), (1, .int r)]) rfl ?_
      exact ih
theorem zUn_loop (l : Launch) (G : xG) {d : Nat} (nn : Nat) (hd : 2 ≤ d) (I : xI) (tc : Nat) (h8 : I 59 8 = nI tc) (htc : tc < 6) (a b t v : Int32) (H : Nat → Int32) (r : Int32) : ∀ (K : List Int32) (o : Int32) (cs : List Int32), tSt H K → K.length + cs.length ≤ 200 → Q_Model_unwinds l G d nn I tc a b t v H r K o cs
  | [], o, cs, _, _ => w0_Model_unwinds l G nn hd I tc h8 htc a b t v H r o cs
  | s :: K, o, cs, hH, hl => by
    rw [List.length_cons] at hl
    by_cases hr : r ≤ zRank s
    · exact wy_Model_unwinds l G nn hd I tc h8 htc a b t v H r s K (tSt_top hH) (by omega) o cs hr (by omega) (zUn_loop l G nn hd I tc h8 htc a b t v H r K _ _ (tSt_tl hH) (by rw [List.length_append]; simp; omega))
    · exact wno_Model_unwinds l G nn hd I tc h8 htc a b t v H r s K (tSt_top hH) (by omega) o cs hr
theorem c_Model_unwinds (l : Launch) (G : xG) {d : Nat} (nn : Nat) (hd : 2 ≤ d) (I : xI) (tc : Nat) (h8 : I 59 8 = nI tc) (htc : tc < 6) (a b t v : Int32) (H : Nat → Int32) (K : List Int32) (o : Int32) (cs : List Int32) (r : Int32) (hH : tSt H K) (hl : K.length + cs.length ≤ 200) : XM l G d y_Model_unwinds b_Model_unwinds 3 (none) 0 0 xK0 [.ref (xg G 59), .int r] nn (xm G (xup xYf 72 (some (sInts 200))) (xup (xup (xup I 64 (zC (200 * tc) cs (I 64))) 72 H) 59 (zS (I 59) a b t v (nI K.length) o (nI cs.length)))) (none) nn (xm G (xup xYf 72 (some (sInts 200))) (xup (xup (xup I 64 (zC (200 * tc) (zUn r K o cs).2.2 (I 64))) 72 H) 59 (zS (I 59) a b t v (nI (zUn r K o cs).1.length) (zUn r K o cs).2.1 (nI (zUn r K o cs).2.2.length)))) := by
  have hx := zUn_loop (d := d) l G nn hd I tc h8 htc a b t v H r K o cs hH hl
  unfold Q_Model_unwinds at hx
  refine XM.of (by decide) (Nat.le_of_ble_eq_true rfl) (L := [(0, .ref (xg G 59)), (1, .int r)]) rfl ?_
  exact hx
