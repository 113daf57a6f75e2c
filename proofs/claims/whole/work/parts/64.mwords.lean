def zCh (g : Nat → Int32) (q e c : Nat) : Int32 := if q + c < e then g (q + c) else 32
def zLk (wd g : Nat → Int32) (q e k : Nat) : Nat → Bool
  | 0 => decide (e - q ≤ 8)
  | c + 1 => zLk wd g q e k c && decide (wd (8 * k + c) = zCh g q e c)
theorem zLk_mono {wd g : Nat → Int32} {q e k c : Nat} (h : zLk wd g q e k c = false) : ∀ j, zLk wd g q e k (c + j) = false
  | 0 => h
  | j + 1 => by rw [← Nat.add_assoc, zLk, zLk_mono h j]; rfl
theorem zLk_8 {wd g : Nat → Int32} {q e k c : Nat} (hc : c ≤ 8) (h : zLk wd g q e k c = false) : zLk wd g q e k 8 = false := by
  have := zLk_mono h (8 - c)
  rw [show c + (8 - c) = 8 by omega] at this
  exact this
def zWf (wd g : Nat → Int32) (q e : Nat) : Nat → Nat → Int32
  | 0, _ => 12
  | r + 1, k => if zLk wd g q e k 8 = true then nI k else zWf wd g q e r (k + 1)
def zTw (W : Int32) : Int32 := if W < 3 then 3 else if W < 9 then 2 else if W = 12 then -1 else 4 + W - 9
def zVw (W : Int32) : Int32 := if W < 3 then W else W - 3
def zDv (g : Nat → Int32) (q : Nat) : Nat → Int32
  | 0 => 0
  | i + 1 => if i < 4 then 10 * zDv g q i + g (q + i) - 48 else 0
def zTk (wd g : Nat → Int32) (n q : Nat) : Int32 := if n ≤ q then 0 else if bLetter (g q) = true then zTw (zWf wd g q (rRun bLetter g n 160 q) 12 0) else if bDigit (g q) = true then (if 4 < nI (rRun bDigit g n 160 q - q) then -1 else 1) else if bSign (g q) = true then g q else -1
def zVa (wd g : Nat → Int32) (n q : Nat) : Int32 := if n ≤ q then 0 else if bLetter (g q) = true then zVw (zWf wd g q (rRun bLetter g n 160 q) 12 0) else if bDigit (g q) = true then zDv g q (rRun bDigit g n 160 q - q) else 0
def Qo_Model_wordFrom (l : Launch) (G : xG) (d nn : Nat) (I : xI) (C H R : Nat → Int32) (r : Int32) (q e k : Nat) : Prop := XW l G (xR d 0 0) y_Model_wordFrom b_Model_wordFrom 6 (some .int) xK0 (xZ G nn (xm G (xup xYf 72 (some (sInts 200))) (xup (xup (xup I 64 C) 72 H) 59 R)) (some (.int r)) 0 0) nn (xm G (xup xYf 72 (some (sInts 200))) (xup (xup (xup I 64 C) 72 H) 59 R)) 0 0 2 [(0, .ref (xg G 59)), (1, .int (nI q)), (2, .int (nI e)), (3, .int (nI k))] []
def Qi_Model_wordFrom (l : Launch) (G : xG) (d nn : Nat) (I : xI) (C H R : Nat → Int32) (r : Int32) (q e k c : Nat) (lk : Int32) : Prop := XW l G (xR d 0 0) y_Model_wordFrom b_Model_wordFrom 6 (some .int) xK0 (xZ G nn (xm G (xup xYf 72 (some (sInts 200))) (xup (xup (xup I 64 C) 72 H) 59 R)) (some (.int r)) 0 0) nn (xm G (xup xYf 72 (some (sInts 200))) (xup (xup (xup I 64 C) 72 H) 59 R)) 0 0 26 [(0, .ref (xg G 59)), (1, .int (nI q)), (2, .int (nI e)), (3, .int (nI k)), (4, .int lk), (5, .int (nI c))] []
theorem wi_Model_wordFrom (l : Launch) (G : xG) {d : Nat} (nn : Nat) (I : xI) (C H R : Nat → Int32) (r : Int32) (q e : Nat) (he : e ≤ 160) (k : Nat) (hle0 : q ≤ e) (hk : k < 12) (hr : r = if zLk (I 71) (I 63) q e k 8 = true then nI k else zWf (I 71) (I 63) q e (12 - (k + 1)) (k + 1)) (hout : r = zWf (I 71) (I 63) q e (12 - (k + 1)) (k + 1) → Qo_Model_wordFrom l G d nn I C H R r q e (k + 1)) (c : Nat) (hc : c ≤ 8) (ih : c < 8 → ∀ lk, lk = xb (zLk (I 71) (I 63) q e k (c + 1)) → Qi_Model_wordFrom l G d nn I C H R r q e k (c + 1) lk) (lk : Int32) (hlk : lk = xb (zLk (I 71) (I 63) q e k c)) : Qi_Model_wordFrom l G d nn I C H R r q e k c lk := by
  unfold Qi_Model_wordFrom
  refine X_iload d_Model_wordFrom_26 rfl ?_
  refine X_bipush (v := 8) d_Model_wordFrom_28 rfl ?_
  refine X_icmp_ge (tgt := 88) d_Model_wordFrom_30 (by decide) (fun c_1 => ?_) (fun c_1 => ?_)
  ·
    have hz : c = 8 := nI_done hc (by decide) c_1
    rw [hz] at hlk
    refine X_iload d_Model_wordFrom_88 rfl ?_
    refine X_if_eq (tgt := 95) d_Model_wordFrom_90 (by decide) (fun c_2 => ?_) (fun c_2 => ?_)
    ·
      have hno : zLk (I 71) (I 63) q e k 8 = false := by first | exact hno | (cases hx : zLk (I 71) (I 63) q e k 8 with | false => rfl | true => (rw [hx] at hlk; rw [hlk] at c_2; exact absurd c_2 (by decide)))
      refine X_iinc d_Model_wordFrom_95 rfl (v := (nI k) + 1) rfl (by decide) [1, 2, 3, 0, 4, 5] (L' := [(0, .ref (xg G 59)), (1, .int (nI q)), (2, .int (nI e)), (3, .int ((nI k) + 1)), (4, .int lk), (5, .int (nI c))]) rfl ?_
      refine X_goto (tgt := 2) d_Model_wordFrom_98 (by decide) ?_
      have key := hout (by rw [hr, if_neg (by rw [hno]; decide)])
      unfold Qo_Model_wordFrom at key
      rw [nI_1]
      refine X_sub [0, 1, 2, 3] (L' := [(0, .ref (xg G 59)), (1, .int (nI q)), (2, .int (nI e)), (3, .int (nI (k + 1)))]) rfl ?_
      exact key
    ·
      have hyes : zLk (I 71) (I 63) q e k 8 = true := by cases hx : zLk (I 71) (I 63) q e k 8 with | true => rfl | false => (rw [hx] at hlk; exact absurd hlk c_2)
      refine X_iload_n d_Model_wordFrom_93 rfl rfl ?_
      exact X_iret rfl (congrArg (fun q => some (Value.int q)) (by rw [hr, if_pos hyes])) (xle_rf _) d_Model_wordFrom_94
  ·
    refine X_iload d_Model_wordFrom_33 rfl ?_
    refine X_if_eq (tgt := 88) d_Model_wordFrom_35 (by decide) (fun c_3 => ?_) (fun c_3 => ?_)
    ·
      have hno : zLk (I 71) (I 63) q e k 8 = false := zLk_8 hc (by cases hx : zLk (I 71) (I 63) q e k c with | false => rfl | true => (rw [hx] at hlk; rw [hlk] at c_3; exact absurd c_3 (by decide)))
      refine X_iload d_Model_wordFrom_88 rfl ?_
      refine X_if_eq (tgt := 95) d_Model_wordFrom_90 (by decide) (fun _ => ?_) (fun c_4 => absurd c_3 c_4)
      have hno : zLk (I 71) (I 63) q e k 8 = false := by first | exact hno | (cases hx : zLk (I 71) (I 63) q e k 8 with | false => rfl | true => (rw [hx] at hlk; rw [hlk] at c_3; exact absurd c_3 (by decide)))
      refine X_iinc d_Model_wordFrom_95 rfl (v := (nI k) + 1) rfl (by decide) [1, 2, 3, 0, 4, 5] (L' := [(0, .ref (xg G 59)), (1, .int (nI q)), (2, .int (nI e)), (3, .int ((nI k) + 1)), (4, .int lk), (5, .int (nI c))]) rfl ?_
      refine X_goto (tgt := 2) d_Model_wordFrom_98 (by decide) ?_
      have key := hout (by rw [hr, if_neg (by rw [hno]; decide)])
      unfold Qo_Model_wordFrom at key
      rw [nI_1]
      refine X_sub [0, 1, 2, 3] (L' := [(0, .ref (xg G 59)), (1, .int (nI q)), (2, .int (nI e)), (3, .int (nI (k + 1)))]) rfl ?_
      exact key
    ·
      have htr : zLk (I 71) (I 63) q e k c = true := by cases hx : zLk (I 71) (I 63) q e k c with | true => rfl | false => (rw [hx] at hlk; exact absurd hlk c_3)
      have hlt8 : c < 8 := nI_more hc (by decide) c_1
      refine X_aload_n d_Model_wordFrom_38 rfl rfl ?_
      refine X_getR (r := 71) fg_Model_43 (show (xup xYf 72 (some (sInts 200))) 59 = some sModel from rfl) rfl d_Model_wordFrom_39 ?_
      refine X_bipush (v := 8) d_Model_wordFrom_42 rfl ?_
      refine X_iload_n d_Model_wordFrom_44 rfl rfl ?_
      refine X_imul d_Model_wordFrom_45 ?_
      refine X_iload d_Model_wordFrom_46 rfl ?_
      refine X_iadd d_Model_wordFrom_48 ?_
      refine X_aldI (v := I 71 (8 * k + c)) (show (xup xYf 72 (some (sInts 200))) 71 = some (sInts 96) from rfl) (ixin (ixA (ixM (show (8 : Int32) = nI 8 from rfl) (show nI k = nI k from rfl)) (show nI c = nI c from rfl)) (show 8 * k + c < 96 by omega) (by decide)) ((ixv (ixA (ixM (show (8 : Int32) = nI 8 from rfl) (show nI k = nI k from rfl)) (show nI c = nI c from rfl)) (show 8 * k + c < 2 ^ 31 by omega) ((congrFun (xup_n _ _ (by decide)) _).trans ((congrFun (xup_n _ _ (by decide)) _).trans (congrFun (xup_n _ _ (by decide)) _))))) d_Model_wordFrom_49 ?_
      refine X_iload_n d_Model_wordFrom_50 rfl rfl ?_
      refine X_iload d_Model_wordFrom_51 rfl ?_
      refine X_iadd d_Model_wordFrom_53 ?_
      refine X_iload_n d_Model_wordFrom_54 rfl rfl ?_
      refine X_icmp_ge (tgt := 70) d_Model_wordFrom_55 (by decide) (fun c_5 => ?_) (fun c_5 => ?_)
      ·
        have hqe : ¬ q + c < e := fun z => by have hh := c_5; rw [nI_add] at hh; exact absurd (nI_lt z (by omega)) (Int32.not_lt.mpr hh)
        refine X_bipush (v := 32) d_Model_wordFrom_70 rfl ?_
        refine X_icmp_ne (tgt := 79) d_Model_wordFrom_72 (by decide) (fun c_6 => ?_) (fun c_6 => ?_)
        ·
          refine X_iconst (v := 0) d_Model_wordFrom_79 rfl ?_
          refine X_istore d_Model_wordFrom_80 (by decide) [1, 2, 3, 4, 0, 5] (L' := [(0, .ref (xg G 59)), (1, .int (nI q)), (2, .int (nI e)), (3, .int (nI k)), (4, .int 0), (5, .int (nI c))]) rfl ?_
          refine X_iinc d_Model_wordFrom_82 rfl (v := (nI c) + 1) rfl (by decide) [1, 2, 3, 4, 5, 0] (L' := [(0, .ref (xg G 59)), (1, .int (nI q)), (2, .int (nI e)), (3, .int (nI k)), (4, .int 0), (5, .int ((nI c) + 1))]) rfl ?_
          refine X_goto (tgt := 26) d_Model_wordFrom_85 (by decide) ?_
          have hlt : c < 8 := nI_more hc (by decide) c_1
          have hch : decide (I 71 (8 * k + c) = zCh (I 63) q e c) = false := by rw [zCh, if_neg hqe]; exact decide_eq_false c_6
          have key := ih hlt 0 (by rw [zLk, htr, hch]; rfl)
          unfold Qi_Model_wordFrom at key
          rw [nI_1]
          exact key
        ·
          refine X_iconst (v := 1) d_Model_wordFrom_75 rfl ?_
          refine X_goto (tgt := 80) d_Model_wordFrom_76 (by decide) ?_
          refine X_istore d_Model_wordFrom_80 (by decide) [1, 2, 3, 4, 0, 5] (L' := [(0, .ref (xg G 59)), (1, .int (nI q)), (2, .int (nI e)), (3, .int (nI k)), (4, .int 1), (5, .int (nI c))]) rfl ?_
          refine X_iinc d_Model_wordFrom_82 rfl (v := (nI c) + 1) rfl (by decide) [1, 2, 3, 4, 5, 0] (L' := [(0, .ref (xg G 59)), (1, .int (nI q)), (2, .int (nI e)), (3, .int (nI k)), (4, .int 1), (5, .int ((nI c) + 1))]) rfl ?_
          refine X_goto (tgt := 26) d_Model_wordFrom_85 (by decide) ?_
          have hlt : c < 8 := nI_more hc (by decide) c_1
          have hch : decide (I 71 (8 * k + c) = zCh (I 63) q e c) = true := by rw [zCh, if_neg hqe]; exact decide_eq_true c_6
          have key := ih hlt 1 (by rw [zLk, htr, hch]; rfl)
          unfold Qi_Model_wordFrom at key
          rw [nI_1]
          exact key
      ·
        have hqe : q + c < e := by have hh := Int32.not_le.mp c_5; rw [nI_add] at hh; exact Nat.lt_of_not_le (fun z => Int32.lt_irrefl (Int32.lt_of_lt_of_le hh (nI_le z (by omega))))
        refine X_aload_n d_Model_wordFrom_58 rfl rfl ?_
        refine X_getR (r := 63) fg_Model_19 (show (xup xYf 72 (some (sInts 200))) 59 = some sModel from rfl) rfl d_Model_wordFrom_59 ?_
        refine X_iload_n d_Model_wordFrom_62 rfl rfl ?_
        refine X_iload d_Model_wordFrom_63 rfl ?_
        refine X_iadd d_Model_wordFrom_65 ?_
        refine X_aldI (v := I 63 (q + c)) (show (xup xYf 72 (some (sInts 200))) 63 = some (sInts 160) from rfl) (ixin (ixA (show nI q = nI q from rfl) (show nI c = nI c from rfl)) (show q + c < 160 by omega) (by decide)) ((ixv (ixA (show nI q = nI q from rfl) (show nI c = nI c from rfl)) (show q + c < 2 ^ 31 by omega) ((congrFun (xup_n _ _ (by decide)) _).trans ((congrFun (xup_n _ _ (by decide)) _).trans (congrFun (xup_n _ _ (by decide)) _))))) d_Model_wordFrom_66 ?_
        refine X_goto (tgt := 72) d_Model_wordFrom_67 (by decide) ?_
        refine X_icmp_ne (tgt := 79) d_Model_wordFrom_72 (by decide) (fun c_7 => ?_) (fun c_7 => ?_)
        ·
          refine X_iconst (v := 0) d_Model_wordFrom_79 rfl ?_
          refine X_istore d_Model_wordFrom_80 (by decide) [1, 2, 3, 4, 0, 5] (L' := [(0, .ref (xg G 59)), (1, .int (nI q)), (2, .int (nI e)), (3, .int (nI k)), (4, .int 0), (5, .int (nI c))]) rfl ?_
          refine X_iinc d_Model_wordFrom_82 rfl (v := (nI c) + 1) rfl (by decide) [1, 2, 3, 4, 5, 0] (L' := [(0, .ref (xg G 59)), (1, .int (nI q)), (2, .int (nI e)), (3, .int (nI k)), (4, .int 0), (5, .int ((nI c) + 1))]) rfl ?_
          refine X_goto (tgt := 26) d_Model_wordFrom_85 (by decide) ?_
          have hlt : c < 8 := nI_more hc (by decide) c_1
          have hch : decide (I 71 (8 * k + c) = zCh (I 63) q e c) = false := by rw [zCh, if_pos hqe]; exact decide_eq_false c_7
          have key := ih hlt 0 (by rw [zLk, htr, hch]; rfl)
          unfold Qi_Model_wordFrom at key
          rw [nI_1]
          exact key
        ·
          refine X_iconst (v := 1) d_Model_wordFrom_75 rfl ?_
          refine X_goto (tgt := 80) d_Model_wordFrom_76 (by decide) ?_
          refine X_istore d_Model_wordFrom_80 (by decide) [1, 2, 3, 4, 0, 5] (L' := [(0, .ref (xg G 59)), (1, .int (nI q)), (2, .int (nI e)), (3, .int (nI k)), (4, .int 1), (5, .int (nI c))]) rfl ?_
          refine X_iinc d_Model_wordFrom_82 rfl (v := (nI c) + 1) rfl (by decide) [1, 2, 3, 4, 5, 0] (L' := [(0, .ref (xg G 59)), (1, .int (nI q)), (2, .int (nI e)), (3, .int (nI k)), (4, .int 1), (5, .int ((nI c) + 1))]) rfl ?_
          refine X_goto (tgt := 26) d_Model_wordFrom_85 (by decide) ?_
          have hlt : c < 8 := nI_more hc (by decide) c_1
          have hch : decide (I 71 (8 * k + c) = zCh (I 63) q e c) = true := by rw [zCh, if_pos hqe]; exact decide_eq_true c_7
          have key := ih hlt 1 (by rw [zLk, htr, hch]; rfl)
          unfold Qi_Model_wordFrom at key
          rw [nI_1]
          exact key
theorem wo_Model_wordFrom (l : Launch) (G : xG) {d : Nat} (nn : Nat) (I : xI) (C H R : Nat → Int32) (r : Int32) (q e : Nat) (he : e ≤ 160) (k : Nat) (hk : k ≤ 12) (hqe : q ≤ e) (ih : k < 12 → r = zWf (I 71) (I 63) q e (12 - (k + 1)) (k + 1) → Qo_Model_wordFrom l G d nn I C H R r q e (k + 1)) (hr : r = zWf (I 71) (I 63) q e (12 - k) k) : Qo_Model_wordFrom l G d nn I C H R r q e k := by
  unfold Qo_Model_wordFrom
  refine X_iload_n d_Model_wordFrom_2 rfl rfl ?_
  refine X_bipush (v := 12) d_Model_wordFrom_3 rfl ?_
  refine X_icmp_ge (tgt := 101) d_Model_wordFrom_5 (by decide) (fun c_1 => ?_) (fun c_1 => ?_)
  ·
    refine X_bipush (v := 12) d_Model_wordFrom_101 rfl ?_
    have hz : 12 - k = 0 := by have := nI_done hk (by decide) c_1; omega
    rw [hz] at hr
    exact X_iret rfl (congrArg (fun q => some (Value.int q)) hr) (xle_rf _) d_Model_wordFrom_103
  ·
    have hlt : k < 12 := nI_more hk (by decide) c_1
    have hz : 12 - k = (12 - (k + 1)) + 1 := by omega
    refine X_iload_n d_Model_wordFrom_8 rfl rfl ?_
    refine X_iload_n d_Model_wordFrom_9 rfl rfl ?_
    refine X_isub d_Model_wordFrom_10 ?_
    rw [pk_sub hqe]
    refine X_bipush (v := 8) d_Model_wordFrom_11 rfl ?_
    refine X_icmp_gt (tgt := 20) d_Model_wordFrom_13 (by decide) (fun c_2 => ?_) (fun c_2 => ?_)
    ·
      have h8 : ¬ e - q ≤ 8 := fun z => absurd c_2 (Int32.not_lt.mpr (nI_le z (by decide)))
      refine X_iconst (v := 0) d_Model_wordFrom_20 rfl ?_
      refine X_istore d_Model_wordFrom_21 (by decide) [1, 2, 3, 4, 0] (L' := [(0, .ref (xg G 59)), (1, .int (nI q)), (2, .int (nI e)), (3, .int (nI k)), (4, .int 0)]) rfl ?_
      refine X_iconst (v := 0) d_Model_wordFrom_23 rfl ?_
      refine X_istore d_Model_wordFrom_24 (by decide) [1, 2, 3, 4, 5, 0] (L' := [(0, .ref (xg G 59)), (1, .int (nI q)), (2, .int (nI e)), (3, .int (nI k)), (4, .int 0), (5, .int 0)]) rfl ?_
      have hx := xloop (Q := fun c => ∀ lk, lk = xb (zLk (I 71) (I 63) q e k c) → Qi_Model_wordFrom l G d nn I C H R r q e k c lk) (T := 8) (fun c hc ih2 lk hlk => wi_Model_wordFrom (d := d) l G nn I C H R r q e he k hqe hlt (by rw [hr, hz, zWf]) (fun z => ih hlt z) c hc ih2 lk hlk) 0 (by decide) 0 (by rw [zLk, decide_eq_false h8]; rfl)
      unfold Qi_Model_wordFrom at hx
      exact hx
    ·
      have h8 : e - q ≤ 8 := Nat.le_of_not_lt (fun z => c_2 (nI_lt z (by omega)))
      refine X_iconst (v := 1) d_Model_wordFrom_16 rfl ?_
      refine X_goto (tgt := 21) d_Model_wordFrom_17 (by decide) ?_
      refine X_istore d_Model_wordFrom_21 (by decide) [1, 2, 3, 4, 0] (L' := [(0, .ref (xg G 59)), (1, .int (nI q)), (2, .int (nI e)), (3, .int (nI k)), (4, .int 1)]) rfl ?_
      refine X_iconst (v := 0) d_Model_wordFrom_23 rfl ?_
      refine X_istore d_Model_wordFrom_24 (by decide) [1, 2, 3, 4, 5, 0] (L' := [(0, .ref (xg G 59)), (1, .int (nI q)), (2, .int (nI e)), (3, .int (nI k)), (4, .int 1), (5, .int 0)]) rfl ?_
      have hx := xloop (Q := fun c => ∀ lk, lk = xb (zLk (I 71) (I 63) q e k c) → Qi_Model_wordFrom l G d nn I C H R r q e k c lk) (T := 8) (fun c hc ih2 lk hlk => wi_Model_wordFrom (d := d) l G nn I C H R r q e he k hqe hlt (by rw [hr, hz, zWf]) (fun z => ih hlt z) c hc ih2 lk hlk) 0 (by decide) 1 (by rw [zLk, decide_eq_true h8]; rfl)
      unfold Qi_Model_wordFrom at hx
      exact hx
theorem c_Model_wordFrom (l : Launch) (G : xG) {d : Nat} (nn : Nat) (I : xI) (C H R : Nat → Int32) (q e : Nat) (he : e ≤ 160) (hqe : q ≤ e) : XM l G d y_Model_wordFrom b_Model_wordFrom 6 (some .int) 0 0 xK0 [.ref (xg G 59), .int (nI q), .int (nI e)] nn (xm G (xup xYf 72 (some (sInts 200))) (xup (xup (xup I 64 C) 72 H) 59 R)) (some (.int (zWf (I 71) (I 63) q e 12 0))) nn (xm G (xup xYf 72 (some (sInts 200))) (xup (xup (xup I 64 C) 72 H) 59 R)) := by
  have hx := xloop (Q := fun k => zWf (I 71) (I 63) q e 12 0 = zWf (I 71) (I 63) q e (12 - k) k → Qo_Model_wordFrom l G d nn I C H R (zWf (I 71) (I 63) q e 12 0) q e k) (T := 12) (fun k hk ih hr => wo_Model_wordFrom l G nn I C H R _ q e he k hk hqe ih hr) 0 (by decide) rfl
  unfold Qo_Model_wordFrom at hx
  refine XM.of (by decide) (Nat.le_of_ble_eq_true rfl) (L := [(0, .ref (xg G 59)), (1, .int (nI q)), (2, .int (nI e))]) rfl ?_
  refine X_iconst (v := 0) d_Model_wordFrom_0 rfl ?_
  refine X_istore_n d_Model_wordFrom_1 rfl (by decide) [1, 2, 3, 0] (L' := [(0, .ref (xg G 59)), (1, .int (nI q)), (2, .int (nI e)), (3, .int 0)]) rfl ?_
  exact hx
