theorem xHead {g hc : Nat} (hg : g < 100) (h5 : hc ≤ 5) : xin (nI g) 0 (nI hc - 1) = true ↔ g < hc := by
  rw [xin_iff]
  cases hc with
  | zero =>
    constructor
    · intro h
      have h2 : (0 : Int32) ≤ nI 0 - 1 := Int32.le_trans h.1 h.2
      exact absurd h2 (by decide)
    · intro h; omega
  | succ m =>
    rw [nI_pred, nI_leI (by omega) (by omega)]
    have h0 : (0 : Int32) ≤ nI g := Int32.not_lt.mp (nI_pos (by omega))
    constructor
    · intro h; omega
    · intro h; exact ⟨h0, by omega⟩
theorem xHead_n {g hc : Nat} (hg : g < 100) (h5 : hc ≤ 5) (h : ¬ g < hc) : xin (nI g) 0 (nI hc - 1) = false := by
  cases hx : xin (nI g) 0 (nI hc - 1) with
  | false => rfl
  | true => exact absurd ((xHead hg h5).mp hx) h
theorem mUnd_k (k o : Int32) : mUnd k o = kOne k o := by
  unfold mUnd kOne kAbove
  grind
theorem nI_s5 (g : Nat) : nI (g + 5) - 5 = nI g := pk_sub (a := g + 5) (b := 5) (by omega)
theorem c_Model_taken (l : Launch) (G : xG) {d : Nat} (nn : Nat) (hd : 3 ≤ d) (I : xI) (hc tc ln : Nat) (SS : Nat → xSay) (hK0 : mOK I hc tc ln SS) (i kind : Int32) : XM l G d y_Model_taken b_Model_taken 3 (some .int) 0 0 xK0 [.ref (xg G 59), .int i, .int kind] nn (xm G xYf I) (some (.int (aTaken hc (mRow I) i kind))) nn (xm G xYf (I)) := by
  obtain ⟨⟨h0, h5⟩, ⟨h8, h6⟩, ⟨h9, hl⟩, hTs, hR⟩ := id hK0
  have hK : mK I ln (SS ln) := ⟨hTs ln hl, h9, by omega⟩
  generalize hSS : SS ln = S at hK ⊢
  refine XM.of (by decide) (Nat.le_of_ble_eq_true rfl) (L := [(0, .ref (xg G 59)), (1, .int i), (2, .int kind)]) rfl ?_
  refine X_iload_n d_Model_taken_0 rfl rfl ?_
  refine X_iconst (v := 0) d_Model_taken_1 rfl ?_
  refine X_bipush (v := 6) d_Model_taken_2 rfl ?_
  refine X_callS (v := .int (xb (xin kind 0 6))) (rest := []) (c_Model_in l G nn _ (by omega) kind 0 6) lk_Model_in ml_Model_66 rfl (Nat.le_of_ble_eq_true rfl) (xRok (d' := d - 1) (by omega) (by decide)) ⟨Nat.le_refl _, Nat.le_refl _⟩ d_Model_taken_4 rfl ?_
  refine X_ifb_ne (tgt := 13) d_Model_taken_7 (by decide) (fun c_1 => ?_) (fun c_1 => ?_)
  ·
    refine X_iload_n d_Model_taken_13 rfl rfl ?_
    refine X_iconst (v := 0) d_Model_taken_14 rfl ?_
    refine X_bipush (v := 9) d_Model_taken_15 rfl ?_
    refine X_callS (v := .int (xb (xin i 0 9))) (rest := []) (c_Model_in l G nn _ (by omega) i 0 9) lk_Model_in ml_Model_66 rfl (Nat.le_of_ble_eq_true rfl) (xRok (d' := d - 1) (by omega) (by decide)) ⟨Nat.le_refl _, Nat.le_refl _⟩ d_Model_taken_17 rfl ?_
    refine X_ifb_ne (tgt := 26) d_Model_taken_20 (by decide) (fun c_2 => ?_) (fun c_2 => ?_)
    ·
      obtain ⟨e, he, rfl⟩ := cTop (n := 9) (by decide) c_2
      have hrem : nI e - nI e / 5 * 5 = nI (e % 5) := q_rem (by omega) 5 (by decide) (by decide)
      by_cases h5e : e < 5
      ·
        have hlt5 : nI e < 5 := (nI_ltI (b := 5) (by omega) (by decide)).mpr h5e
        rw [Nat.mod_eq_of_lt h5e] at hrem
        have hn5 : aTaken hc (mRow I) (nI e) kind = if xin kind 0 6 = true then (if xin (nI e) 0 9 = true then (if xin (nI e) 0 (nI hc - 1) = true then (if kind = 6 then -13 else if kOne (mRow I (nI e).toNatClampNeg 0) kind = true then nI e else -13) else -11) else -12) else -2 := by unfold aTaken; rw [if_neg (Int32.not_le.mpr hlt5)]
        refine X_iload_n d_Model_taken_26 rfl rfl ?_
        refine X_iconst (v := 5) d_Model_taken_27 rfl ?_
        refine X_irem d_Model_taken_28 (by decide) ?_
        rw [hrem]
        refine X_aload_n d_Model_taken_29 rfl rfl ?_
        refine X_getI (v := nI hc) fg_Model_63 (show xYf 59 = some sModel from rfl) rfl (h0) d_Model_taken_30 ?_
        refine X_icmp_lt (tgt := 39) d_Model_taken_33 (by decide) (fun c_3 => ?_) (fun c_3 => ?_)
        ·
          have hxh := (xHead (g := e) (by omega) h5).mpr ((nI_ltI (by omega) (by omega)).mp c_3)
          refine X_iload_n d_Model_taken_39 rfl rfl ?_
          refine X_iconst (v := 5) d_Model_taken_40 rfl ?_
          refine X_icmp_lt (tgt := 71) d_Model_taken_41 (by decide) (fun _ => ?_) (fun c_4 => absurd c_4 (fun z => z hlt5))
          refine X_iload_n d_Model_taken_71 rfl rfl ?_
          refine X_bipush (v := 6) d_Model_taken_72 rfl ?_
          refine X_icmp_ge (tgt := 94) d_Model_taken_74 (by decide) (fun c_5 => ?_) (fun c_5 => ?_)
          ·
            have hk6 : kind = 6 := by rw [xin_iff] at c_1; grind
            refine X_bipush (v := -13) d_Model_taken_94 rfl ?_
            exact X_iret rfl (congrArg (fun q => some (Value.int q)) (by subst hSS; first | (simp [mRow, mUnd_k, c_1, c_2, hn5, nI_cl (show e < 2 ^ 31 by omega), c_3, Int32.not_le.mpr c_3, hxh, c_5, Int32.not_lt.mpr c_5, hk6, xl_1_0, xl_1_1, xl_2_0, xl_2_1, xl_2_2, xl_3_0, xl_3_1, xl_3_2, xl_3_3]; done) | (exfalso; simp_all; done) | (clear hTs hR hK0 hK; simp_all [mRow, mUnd_k, nI_cl (show e < 2 ^ 31 by omega)]; done))) (xle_rf _) d_Model_taken_96
          ·
            have hk6 : ¬ kind = 6 := fun z => c_5 (by rw [z]; decide)
            refine X_aload_n d_Model_taken_77 rfl rfl ?_
            refine X_getR (r := 60) fg_Model_7 (show xYf 59 = some sModel from rfl) rfl d_Model_taken_78 ?_
            refine X_iload_n d_Model_taken_81 rfl rfl ?_
            refine X_aldI (v := I 60 e) (show xYf 60 = some (sInts 5) from rfl) (ixin (show nI e = nI e from rfl) (show e < 5 by omega) (by decide)) ((ixv (show nI e = nI e from rfl) (show e < 2 ^ 31 by omega) (rfl))) d_Model_taken_82 ?_
            refine X_iload_n d_Model_taken_83 rfl rfl ?_
            refine X_callS (v := .int (xb (mUnd (I 60 e) kind))) (rest := []) (c_Model_isUnder l G nn _ (by omega) (I 60 e) kind) lk_Model_isUnder ml_Model_273 rfl (Nat.le_of_ble_eq_true rfl) (xRok (d' := d - 1) (by omega) (by decide)) ⟨Nat.le_refl _, Nat.le_refl _⟩ d_Model_taken_84 rfl ?_
            refine X_ifb_eq (tgt := 94) d_Model_taken_87 (by decide) (fun c_6 => ?_) (fun c_6 => ?_)
            ·
              refine X_bipush (v := -13) d_Model_taken_94 rfl ?_
              exact X_iret rfl (congrArg (fun q => some (Value.int q)) (by subst hSS; first | (simp [mRow, mUnd_k, c_1, c_2, hn5, nI_cl (show e < 2 ^ 31 by omega), c_3, Int32.not_le.mpr c_3, hxh, c_5, Int32.not_le.mp c_5, hk6, c_6, xl_1_0, xl_1_1, xl_2_0, xl_2_1, xl_2_2, xl_3_0, xl_3_1, xl_3_2, xl_3_3]; done) | (exfalso; simp_all; done) | (clear hTs hR hK0 hK; simp_all [mRow, mUnd_k, nI_cl (show e < 2 ^ 31 by omega)]; done))) (xle_rf _) d_Model_taken_96
            ·
              refine X_iload_n d_Model_taken_90 rfl rfl ?_
              refine X_goto (tgt := 96) d_Model_taken_91 (by decide) ?_
              exact X_iret rfl (congrArg (fun q => some (Value.int q)) (by subst hSS; first | (simp [mRow, mUnd_k, c_1, c_2, hn5, nI_cl (show e < 2 ^ 31 by omega), c_3, Int32.not_le.mpr c_3, hxh, c_5, Int32.not_le.mp c_5, hk6, c_6, xl_1_0, xl_1_1, xl_2_0, xl_2_1, xl_2_2, xl_3_0, xl_3_1, xl_3_2, xl_3_3]; done) | (exfalso; simp_all; done) | (clear hTs hR hK0 hK; simp_all [mRow, mUnd_k, nI_cl (show e < 2 ^ 31 by omega)]; done))) (xle_rf _) d_Model_taken_96
        ·
          have hxh := xHead_n (g := e) (by omega) h5 (fun z => c_3 (nI_lt z (by omega)))
          refine X_bipush (v := -11) d_Model_taken_36 rfl ?_
          exact X_iret rfl (congrArg (fun q => some (Value.int q)) (by subst hSS; first | (simp [mRow, mUnd_k, c_1, c_2, hn5, nI_cl (show e < 2 ^ 31 by omega), c_3, Int32.not_lt.mp c_3, hxh, xl_1_0, xl_1_1, xl_2_0, xl_2_1, xl_2_2, xl_3_0, xl_3_1, xl_3_2, xl_3_3]; done) | (exfalso; simp_all; done) | (clear hTs hR hK0 hK; simp_all [mRow, mUnd_k, nI_cl (show e < 2 ^ 31 by omega)]; done))) (xle_rf _) d_Model_taken_38
      ·
        obtain ⟨g, hge⟩ : ∃ g, e = g + 5 := ⟨e - 5, by omega⟩
        subst hge
        rw [show (g + 5) % 5 = g by omega] at hrem
        have hlt5 : ¬ nI (g + 5) < 5 := fun z => h5e ((nI_ltI (b := 5) (by omega) (by decide)).mp z)
        have hn5 : aTaken hc (mRow I) (nI (g + 5)) kind = if xin kind 0 6 = true then (if xin (nI (g + 5)) 0 9 = true then (if xin (nI (g + 5) - 5) 0 (nI hc - 1) = true then (if kind = 6 then mRow I (nI (g + 5) - 5).toNatClampNeg 7 else -13) else -11) else -12) else -2 := by unfold aTaken; rw [if_pos (Int32.not_lt.mp hlt5)]
        have hs5 := nI_s5 g
        refine X_iload_n d_Model_taken_26 rfl rfl ?_
        refine X_iconst (v := 5) d_Model_taken_27 rfl ?_
        refine X_irem d_Model_taken_28 (by decide) ?_
        rw [hrem]
        refine X_aload_n d_Model_taken_29 rfl rfl ?_
        refine X_getI (v := nI hc) fg_Model_63 (show xYf 59 = some sModel from rfl) rfl (h0) d_Model_taken_30 ?_
        refine X_icmp_lt (tgt := 39) d_Model_taken_33 (by decide) (fun c_7 => ?_) (fun c_7 => ?_)
        ·
          have hxh := (xHead (g := g) (by omega) h5).mpr ((nI_ltI (by omega) (by omega)).mp c_7)
          refine X_iload_n d_Model_taken_39 rfl rfl ?_
          refine X_iconst (v := 5) d_Model_taken_40 rfl ?_
          refine X_icmp_lt (tgt := 71) d_Model_taken_41 (by decide) (fun c_8 => absurd c_8 hlt5) (fun _ => ?_)
          refine X_iload_n d_Model_taken_44 rfl rfl ?_
          refine X_bipush (v := 6) d_Model_taken_45 rfl ?_
          refine X_icmp_ne (tgt := 66) d_Model_taken_47 (by decide) (fun c_9 => ?_) (fun c_9 => ?_)
          ·
            refine X_bipush (v := -13) d_Model_taken_66 rfl ?_
            refine X_goto (tgt := 96) d_Model_taken_68 (by decide) ?_
            exact X_iret rfl (congrArg (fun q => some (Value.int q)) (by subst hSS; first | (simp [mRow, mUnd_k, c_1, c_2, hn5, hs5, nI_cl (show g < 2 ^ 31 by omega), c_7, Int32.not_le.mpr c_7, hxh, c_9, xl_1_0, xl_1_1, xl_2_0, xl_2_1, xl_2_2, xl_3_0, xl_3_1, xl_3_2, xl_3_3]; done) | (exfalso; simp_all; done) | (clear hTs hR hK0 hK; simp_all [mRow, mUnd_k, nI_cl (show g < 2 ^ 31 by omega)]; done))) (xle_rf _) d_Model_taken_96
          ·
            refine X_aload_n d_Model_taken_50 rfl rfl ?_
            refine X_getR (r := 62) fg_Model_16 (show xYf 59 = some sModel from rfl) rfl d_Model_taken_51 ?_
            refine X_bipush (v := 6) d_Model_taken_54 rfl ?_
            refine X_iload_n d_Model_taken_56 rfl rfl ?_
            refine X_iconst (v := 5) d_Model_taken_57 rfl ?_
            refine X_isub d_Model_taken_58 ?_
            rw [hs5]
            refine X_imul d_Model_taken_59 ?_
            refine X_iconst (v := 5) d_Model_taken_60 rfl ?_
            refine X_iadd d_Model_taken_61 ?_
            refine X_aldI (v := I 62 (6 * g + 5)) (show xYf 62 = some (sInts 30) from rfl) (ixin (ixA (ixM (show (6 : Int32) = nI 6 from rfl) (show nI g = nI g from rfl)) (show (5 : Int32) = nI 5 from rfl)) (show 6 * g + 5 < 30 by omega) (by decide)) ((ixv (ixA (ixM (show (6 : Int32) = nI 6 from rfl) (show nI g = nI g from rfl)) (show (5 : Int32) = nI 5 from rfl)) (show 6 * g + 5 < 2 ^ 31 by omega) (rfl))) d_Model_taken_62 ?_
            refine X_goto (tgt := 96) d_Model_taken_63 (by decide) ?_
            exact X_iret rfl (congrArg (fun q => some (Value.int q)) (by subst hSS; first | (simp [mRow, mUnd_k, c_1, c_2, hn5, hs5, nI_cl (show g < 2 ^ 31 by omega), c_7, Int32.not_le.mpr c_7, hxh, c_9, xl_1_0, xl_1_1, xl_2_0, xl_2_1, xl_2_2, xl_3_0, xl_3_1, xl_3_2, xl_3_3]; done) | (exfalso; simp_all; done) | (clear hTs hR hK0 hK; simp_all [mRow, mUnd_k, nI_cl (show g < 2 ^ 31 by omega)]; done))) (xle_rf _) d_Model_taken_96
        ·
          have hxh := xHead_n (g := g) (by omega) h5 (fun z => c_7 (nI_lt z (by omega)))
          refine X_bipush (v := -11) d_Model_taken_36 rfl ?_
          exact X_iret rfl (congrArg (fun q => some (Value.int q)) (by subst hSS; first | (simp [mRow, mUnd_k, c_1, c_2, hn5, hs5, nI_cl (show g < 2 ^ 31 by omega), c_7, Int32.not_lt.mp c_7, hxh, xl_1_0, xl_1_1, xl_2_0, xl_2_1, xl_2_2, xl_3_0, xl_3_1, xl_3_2, xl_3_3]; done) | (exfalso; simp_all; done) | (clear hTs hR hK0 hK; simp_all [mRow, mUnd_k, nI_cl (show g < 2 ^ 31 by omega)]; done))) (xle_rf _) d_Model_taken_38
    ·
      refine X_bipush (v := -12) d_Model_taken_23 rfl ?_
      exact X_iret rfl (congrArg (fun q => some (Value.int q)) (by subst hSS; first | (simp [aTaken, mUnd_k, c_1, c_2, xl_1_0, xl_1_1, xl_2_0, xl_2_1, xl_2_2, xl_3_0, xl_3_1, xl_3_2, xl_3_3]; done) | (exfalso; simp_all; done) | (clear hTs hR hK0 hK; simp_all [aTaken, mUnd_k]; done))) (xle_rf _) d_Model_taken_25
  ·
    refine X_bipush (v := -2) d_Model_taken_10 rfl ?_
    exact X_iret rfl (congrArg (fun q => some (Value.int q)) (by subst hSS; first | (simp [aTaken, mUnd_k, c_1, xl_1_0, xl_1_1, xl_2_0, xl_2_1, xl_2_2, xl_3_0, xl_3_1, xl_3_2, xl_3_3]; done) | (exfalso; simp_all; done) | (clear hTs hR hK0 hK; simp_all [aTaken, mUnd_k]; done))) (xle_rf _) d_Model_taken_12
def mTk (v : Int32) (I : xI) : xI := xw (xw I 63 (I 59 5).toNatClampNeg v) 59 5 (I 59 5 + 1)
def mFd (a b c d e : Int32) : Nat → Nat → xI → xI
  | 0, _, I => I
  | r + 1, k, I => mFd a b c d e r (k + 1) (mTk (fdB (nI k) a b c d e) I)
def aFeedM (I : xI) (n a b c d e : Int32) : Int32 := if okFeed n a b c d e = true then (if I 59 5 + n ≤ 160 then mFd a b c d e n.toNatClampNeg 0 I 59 5 else -4) else -2
def mFeedM (I : xI) (n a b c d e : Int32) : xI := if okFeed n a b c d e = true then (if I 59 5 + n ≤ 160 then mFd a b c d e n.toNatClampNeg 0 I else I) else I
theorem mTk_p {v : Int32} {I : xI} {p : Nat} (h : I 59 5 = nI p) : mTk v I 59 5 = nI (p + 1) := by rw [mTk, xw_s, h, nI_1]
theorem mTk_e {v : Int32} {I : xI} {p : Nat} (hp : p < 1000) (h : I 59 5 = nI p) : mTk v I = xw (xw I 63 p v) 59 5 (nI p + 1) := by rw [mTk, h, nI_cl (by omega)]
def Q_Model_feed (l : Launch) (G : xG) (d nn N : Nat) (a b c v e : Int32) (k : Nat) (J : xI) : Prop := XW l G (xR d 0 0) y_Model_feed b_Model_feed 8 (some .int) xK0 (xZ G nn (xm G xYf (mFd a b c v e (N - k) k J)) (some (.int (mFd a b c v e (N - k) k J 59 5))) 0 0) nn (xm G xYf J) 0 0 68 [(0, .ref (xg G 59)), (1, .int (nI N)), (2, .int a), (3, .int b), (4, .int c), (5, .int v), (6, .int e), (7, .int (nI k))] []
theorem w_Model_feed (l : Launch) (G : xG) {d : Nat} (nn N : Nat) (hN : N ≤ 5) (a b c v e : Int32) (k : Nat) (hk : k ≤ N) (ih : k < N → ∀ J p, J 59 5 = nI p → p + (N - (k + 1)) ≤ 160 → Q_Model_feed l G d nn N a b c v e (k + 1) J) (J : xI) (p : Nat) (hp : J 59 5 = nI p) (hpN : p + (N - k) ≤ 160) : Q_Model_feed l G d nn N a b c v e k J := by
  unfold Q_Model_feed
  refine X_iload d_Model_feed_68 rfl ?_
  refine X_iload_n d_Model_feed_70 rfl rfl ?_
  refine X_icmp_ge (tgt := 142) d_Model_feed_71 (by decide) (fun c_1 => ?_) (fun c_1 => ?_)
  ·
    refine X_aload_n d_Model_feed_142 rfl rfl ?_
    refine X_getI (v := nI p) fg_Model_55 (show xYf 59 = some sModel from rfl) rfl (hp) d_Model_feed_143 ?_
    have hz : N - k = 0 := by have := nI_done hk (by omega) c_1; omega
    rw [hz]
    exact X_iret rfl (congrArg (fun q => some (Value.int q)) (by rw [mFd, hp])) (xle_rf _) d_Model_feed_146
  ·
    have hlt : k < N := nI_more hk (by omega) c_1
    have hz : N - k = (N - (k + 1)) + 1 := by omega
    refine X_aload_n d_Model_feed_74 rfl rfl ?_
    refine X_getR (r := 63) fg_Model_19 (show xYf 59 = some sModel from rfl) rfl d_Model_feed_75 ?_
    refine X_aload_n d_Model_feed_78 rfl rfl ?_
    refine X_getI (v := nI p) fg_Model_55 (show xYf 59 = some sModel from rfl) rfl (hp) d_Model_feed_79 ?_
    refine X_iload d_Model_feed_82 rfl ?_
    refine X_if_ne (tgt := 91) d_Model_feed_84 (by decide) (fun c_2 => ?_) (fun c_2 => ?_)
    ·
      refine X_iload d_Model_feed_91 rfl ?_
      refine X_iconst (v := 1) d_Model_feed_93 rfl ?_
      refine X_icmp_ne (tgt := 101) d_Model_feed_94 (by decide) (fun c_3 => ?_) (fun c_3 => ?_)
      ·
        refine X_iload d_Model_feed_101 rfl ?_
        refine X_iconst (v := 2) d_Model_feed_103 rfl ?_
        refine X_icmp_ne (tgt := 112) d_Model_feed_104 (by decide) (fun c_4 => ?_) (fun c_4 => ?_)
        ·
          refine X_iload d_Model_feed_112 rfl ?_
          refine X_iconst (v := 3) d_Model_feed_114 rfl ?_
          refine X_icmp_ne (tgt := 123) d_Model_feed_115 (by decide) (fun c_5 => ?_) (fun c_5 => ?_)
          ·
            refine X_iload d_Model_feed_123 rfl ?_
            have hv : fdB (nI k) a b c v e = e := by simp [fdB, c_2, c_3, c_4, c_5]
            refine X_astI (show xYf 63 = some (sInts 160) from rfl) (ixin (show nI p = nI p from rfl) (show p < 160 by omega) (by decide)) d_Model_feed_125 ?_
            rw [ixcl (x := nI p) (show nI p = nI p from rfl) (show p < 2 ^ 31 by omega)]
            refine X_aload_n d_Model_feed_126 rfl rfl ?_
            refine X_dup d_Model_feed_127 rfl ?_
            refine X_getI (v := nI p) fg_Model_55 (show xYf 59 = some sModel from rfl) rfl ((xw_a _ _ _ _ (by decide)).trans (hp)) d_Model_feed_128 ?_
            refine X_iconst (v := 1) d_Model_feed_131 rfl ?_
            refine X_iadd d_Model_feed_132 ?_
            refine X_putI fp_Model_55 (show xYf 59 = some sModel from rfl) rfl d_Model_feed_133 ?_
            refine X_iinc d_Model_feed_136 rfl (v := (nI k) + 1) rfl (by decide) [1, 2, 3, 4, 5, 6, 7, 0] (L' := [(0, .ref (xg G 59)), (1, .int (nI N)), (2, .int a), (3, .int b), (4, .int c), (5, .int v), (6, .int e), (7, .int ((nI k) + 1))]) rfl ?_
            refine X_goto (tgt := 68) d_Model_feed_139 (by decide) ?_
            have key := ih hlt (mTk e J) (p + 1) (mTk_p hp) (by omega)
            unfold Q_Model_feed at key
            rw [mTk_e (by omega) hp] at key
            rw [hz, mFd, hv, mTk_e (by omega) hp, nI_1 k]
            exact key
          ·
            refine X_iload d_Model_feed_118 rfl ?_
            refine X_goto (tgt := 125) d_Model_feed_120 (by decide) ?_
            have hv : fdB (nI k) a b c v e = v := by simp [fdB, c_2, c_3, c_4, c_5]
            refine X_astI (show xYf 63 = some (sInts 160) from rfl) (ixin (show nI p = nI p from rfl) (show p < 160 by omega) (by decide)) d_Model_feed_125 ?_
            rw [ixcl (x := nI p) (show nI p = nI p from rfl) (show p < 2 ^ 31 by omega)]
            refine X_aload_n d_Model_feed_126 rfl rfl ?_
            refine X_dup d_Model_feed_127 rfl ?_
            refine X_getI (v := nI p) fg_Model_55 (show xYf 59 = some sModel from rfl) rfl ((xw_a _ _ _ _ (by decide)).trans (hp)) d_Model_feed_128 ?_
            refine X_iconst (v := 1) d_Model_feed_131 rfl ?_
            refine X_iadd d_Model_feed_132 ?_
            refine X_putI fp_Model_55 (show xYf 59 = some sModel from rfl) rfl d_Model_feed_133 ?_
            refine X_iinc d_Model_feed_136 rfl (v := (nI k) + 1) rfl (by decide) [1, 2, 3, 4, 5, 6, 7, 0] (L' := [(0, .ref (xg G 59)), (1, .int (nI N)), (2, .int a), (3, .int b), (4, .int c), (5, .int v), (6, .int e), (7, .int ((nI k) + 1))]) rfl ?_
            refine X_goto (tgt := 68) d_Model_feed_139 (by decide) ?_
            have key := ih hlt (mTk v J) (p + 1) (mTk_p hp) (by omega)
            unfold Q_Model_feed at key
            rw [mTk_e (by omega) hp] at key
            rw [hz, mFd, hv, mTk_e (by omega) hp, nI_1 k]
            exact key
        ·
          refine X_iload d_Model_feed_107 rfl ?_
          refine X_goto (tgt := 125) d_Model_feed_109 (by decide) ?_
          have hv : fdB (nI k) a b c v e = c := by simp [fdB, c_2, c_3, c_4]
          refine X_astI (show xYf 63 = some (sInts 160) from rfl) (ixin (show nI p = nI p from rfl) (show p < 160 by omega) (by decide)) d_Model_feed_125 ?_
          rw [ixcl (x := nI p) (show nI p = nI p from rfl) (show p < 2 ^ 31 by omega)]
          refine X_aload_n d_Model_feed_126 rfl rfl ?_
          refine X_dup d_Model_feed_127 rfl ?_
          refine X_getI (v := nI p) fg_Model_55 (show xYf 59 = some sModel from rfl) rfl ((xw_a _ _ _ _ (by decide)).trans (hp)) d_Model_feed_128 ?_
          refine X_iconst (v := 1) d_Model_feed_131 rfl ?_
          refine X_iadd d_Model_feed_132 ?_
          refine X_putI fp_Model_55 (show xYf 59 = some sModel from rfl) rfl d_Model_feed_133 ?_
          refine X_iinc d_Model_feed_136 rfl (v := (nI k) + 1) rfl (by decide) [1, 2, 3, 4, 5, 6, 7, 0] (L' := [(0, .ref (xg G 59)), (1, .int (nI N)), (2, .int a), (3, .int b), (4, .int c), (5, .int v), (6, .int e), (7, .int ((nI k) + 1))]) rfl ?_
          refine X_goto (tgt := 68) d_Model_feed_139 (by decide) ?_
          have key := ih hlt (mTk c J) (p + 1) (mTk_p hp) (by omega)
          unfold Q_Model_feed at key
          rw [mTk_e (by omega) hp] at key
          rw [hz, mFd, hv, mTk_e (by omega) hp, nI_1 k]
          exact key
      ·
        refine X_iload_n d_Model_feed_97 rfl rfl ?_
        refine X_goto (tgt := 125) d_Model_feed_98 (by decide) ?_
        have hv : fdB (nI k) a b c v e = b := by simp [fdB, c_2, c_3]
        refine X_astI (show xYf 63 = some (sInts 160) from rfl) (ixin (show nI p = nI p from rfl) (show p < 160 by omega) (by decide)) d_Model_feed_125 ?_
        rw [ixcl (x := nI p) (show nI p = nI p from rfl) (show p < 2 ^ 31 by omega)]
        refine X_aload_n d_Model_feed_126 rfl rfl ?_
        refine X_dup d_Model_feed_127 rfl ?_
        refine X_getI (v := nI p) fg_Model_55 (show xYf 59 = some sModel from rfl) rfl ((xw_a _ _ _ _ (by decide)).trans (hp)) d_Model_feed_128 ?_
        refine X_iconst (v := 1) d_Model_feed_131 rfl ?_
        refine X_iadd d_Model_feed_132 ?_
        refine X_putI fp_Model_55 (show xYf 59 = some sModel from rfl) rfl d_Model_feed_133 ?_
        refine X_iinc d_Model_feed_136 rfl (v := (nI k) + 1) rfl (by decide) [1, 2, 3, 4, 5, 6, 7, 0] (L' := [(0, .ref (xg G 59)), (1, .int (nI N)), (2, .int a), (3, .int b), (4, .int c), (5, .int v), (6, .int e), (7, .int ((nI k) + 1))]) rfl ?_
        refine X_goto (tgt := 68) d_Model_feed_139 (by decide) ?_
        have key := ih hlt (mTk b J) (p + 1) (mTk_p hp) (by omega)
        unfold Q_Model_feed at key
        rw [mTk_e (by omega) hp] at key
        rw [hz, mFd, hv, mTk_e (by omega) hp, nI_1 k]
        exact key
    ·
      refine X_iload_n d_Model_feed_87 rfl rfl ?_
      refine X_goto (tgt := 125) d_Model_feed_88 (by decide) ?_
      have hv : fdB (nI k) a b c v e = a := by simp [fdB, c_2]
      refine X_astI (show xYf 63 = some (sInts 160) from rfl) (ixin (show nI p = nI p from rfl) (show p < 160 by omega) (by decide)) d_Model_feed_125 ?_
      rw [ixcl (x := nI p) (show nI p = nI p from rfl) (show p < 2 ^ 31 by omega)]
      refine X_aload_n d_Model_feed_126 rfl rfl ?_
      refine X_dup d_Model_feed_127 rfl ?_
      refine X_getI (v := nI p) fg_Model_55 (show xYf 59 = some sModel from rfl) rfl ((xw_a _ _ _ _ (by decide)).trans (hp)) d_Model_feed_128 ?_
      refine X_iconst (v := 1) d_Model_feed_131 rfl ?_
      refine X_iadd d_Model_feed_132 ?_
      refine X_putI fp_Model_55 (show xYf 59 = some sModel from rfl) rfl d_Model_feed_133 ?_
      refine X_iinc d_Model_feed_136 rfl (v := (nI k) + 1) rfl (by decide) [1, 2, 3, 4, 5, 6, 7, 0] (L' := [(0, .ref (xg G 59)), (1, .int (nI N)), (2, .int a), (3, .int b), (4, .int c), (5, .int v), (6, .int e), (7, .int ((nI k) + 1))]) rfl ?_
      refine X_goto (tgt := 68) d_Model_feed_139 (by decide) ?_
      have key := ih hlt (mTk a J) (p + 1) (mTk_p hp) (by omega)
      unfold Q_Model_feed at key
      rw [mTk_e (by omega) hp] at key
      rw [hz, mFd, hv, mTk_e (by omega) hp, nI_1 k]
      exact key
theorem c_Model_feed (l : Launch) (G : xG) {d : Nat} (nn : Nat) (hd : 3 ≤ d) (I : xI) (hc tc ln : Nat) (SS : Nat → xSay) (hK0 : mOK I hc tc ln SS) (p : Nat) (hp : I 59 5 = nI p) (hp2 : p ≤ 160) (n a b c v e : Int32) : XM l G d y_Model_feed b_Model_feed 8 (some .int) 0 0 xK0 [.ref (xg G 59), .int n, .int a, .int b, .int c, .int v, .int e] nn (xm G xYf I) (some (.int (aFeedM I n a b c v e))) nn (xm G xYf (mFeedM I n a b c v e)) := by
  obtain ⟨⟨h0, h5⟩, ⟨h8, h6⟩, ⟨h9, hl⟩, hTs, hR⟩ := id hK0
  have hK : mK I ln (SS ln) := ⟨hTs ln hl, h9, by omega⟩
  generalize hSS : SS ln = S at hK ⊢
  refine XM.of (by decide) (Nat.le_of_ble_eq_true rfl) (L := [(0, .ref (xg G 59)), (1, .int n), (2, .int a), (3, .int b), (4, .int c), (5, .int v), (6, .int e)]) rfl ?_
  refine X_iload_n d_Model_feed_0 rfl rfl ?_
  refine X_iconst (v := 1) d_Model_feed_1 rfl ?_
  refine X_iconst (v := 5) d_Model_feed_2 rfl ?_
  refine X_callS (v := .int (xb (xin n 1 5))) (rest := []) (c_Model_in l G nn _ (by omega) n 1 5) lk_Model_in ml_Model_66 rfl (Nat.le_of_ble_eq_true rfl) (xRok (d' := d - 1) (by omega) (by decide)) ⟨Nat.le_refl _, Nat.le_refl _⟩ d_Model_feed_3 rfl ?_
  refine X_ifb_eq (tgt := 47) d_Model_feed_6 (by decide) (fun c_1 => ?_) (fun c_1 => ?_)
  ·
    refine X_bipush (v := -2) d_Model_feed_47 rfl ?_
    exact X_iret rfl (congrArg (fun q => some (Value.int q)) (by subst hSS; first | (simp [aFeedM, okFeed, hp, c_1, xl_1_0, xl_1_1, xl_2_0, xl_2_1, xl_2_2, xl_3_0, xl_3_1, xl_3_2, xl_3_3]; done) | (exfalso; simp_all; done) | (clear hTs hR hK0 hK; simp_all [aFeedM, okFeed, hp]; done))) (xle_of (congrArg (xm G xYf) (by first | (subst hSS; simp [mFeedM, okFeed, hp, c_1]; done) | (exfalso; simp_all; done)))) d_Model_feed_49
  ·
    refine X_iload_n d_Model_feed_9 rfl rfl ?_
    refine X_callS (v := .int (xb (xin a 0 255))) (rest := []) (c_Model_isByte l G nn _ (by omega) a) lk_Model_isByte ml_Model_76 rfl (Nat.le_of_ble_eq_true rfl) (xRok (d' := d - 1) (by omega) (by decide)) ⟨Nat.le_refl _, Nat.le_refl _⟩ d_Model_feed_10 rfl ?_
    refine X_ifb_eq (tgt := 47) d_Model_feed_13 (by decide) (fun c_2 => ?_) (fun c_2 => ?_)
    ·
      refine X_bipush (v := -2) d_Model_feed_47 rfl ?_
      exact X_iret rfl (congrArg (fun q => some (Value.int q)) (by subst hSS; first | (simp [aFeedM, okFeed, hp, c_1, c_2, xl_1_0, xl_1_1, xl_2_0, xl_2_1, xl_2_2, xl_3_0, xl_3_1, xl_3_2, xl_3_3]; done) | (exfalso; simp_all; done) | (clear hTs hR hK0 hK; simp_all [aFeedM, okFeed, hp]; done))) (xle_of (congrArg (xm G xYf) (by first | (subst hSS; simp [mFeedM, okFeed, hp, c_1, c_2]; done) | (exfalso; simp_all; done)))) d_Model_feed_49
    ·
      refine X_iload_n d_Model_feed_16 rfl rfl ?_
      refine X_callS (v := .int (xb (xin b 0 255))) (rest := []) (c_Model_isByte l G nn _ (by omega) b) lk_Model_isByte ml_Model_76 rfl (Nat.le_of_ble_eq_true rfl) (xRok (d' := d - 1) (by omega) (by decide)) ⟨Nat.le_refl _, Nat.le_refl _⟩ d_Model_feed_17 rfl ?_
      refine X_ifb_eq (tgt := 47) d_Model_feed_20 (by decide) (fun c_3 => ?_) (fun c_3 => ?_)
      ·
        refine X_bipush (v := -2) d_Model_feed_47 rfl ?_
        exact X_iret rfl (congrArg (fun q => some (Value.int q)) (by subst hSS; first | (simp [aFeedM, okFeed, hp, c_1, c_2, c_3, xl_1_0, xl_1_1, xl_2_0, xl_2_1, xl_2_2, xl_3_0, xl_3_1, xl_3_2, xl_3_3]; done) | (exfalso; simp_all; done) | (clear hTs hR hK0 hK; simp_all [aFeedM, okFeed, hp]; done))) (xle_of (congrArg (xm G xYf) (by first | (subst hSS; simp [mFeedM, okFeed, hp, c_1, c_2, c_3]; done) | (exfalso; simp_all; done)))) d_Model_feed_49
      ·
        refine X_iload d_Model_feed_23 rfl ?_
        refine X_callS (v := .int (xb (xin c 0 255))) (rest := []) (c_Model_isByte l G nn _ (by omega) c) lk_Model_isByte ml_Model_76 rfl (Nat.le_of_ble_eq_true rfl) (xRok (d' := d - 1) (by omega) (by decide)) ⟨Nat.le_refl _, Nat.le_refl _⟩ d_Model_feed_25 rfl ?_
        refine X_ifb_eq (tgt := 47) d_Model_feed_28 (by decide) (fun c_4 => ?_) (fun c_4 => ?_)
        ·
          refine X_bipush (v := -2) d_Model_feed_47 rfl ?_
          exact X_iret rfl (congrArg (fun q => some (Value.int q)) (by subst hSS; first | (simp [aFeedM, okFeed, hp, c_1, c_2, c_3, c_4, xl_1_0, xl_1_1, xl_2_0, xl_2_1, xl_2_2, xl_3_0, xl_3_1, xl_3_2, xl_3_3]; done) | (exfalso; simp_all; done) | (clear hTs hR hK0 hK; simp_all [aFeedM, okFeed, hp]; done))) (xle_of (congrArg (xm G xYf) (by first | (subst hSS; simp [mFeedM, okFeed, hp, c_1, c_2, c_3, c_4]; done) | (exfalso; simp_all; done)))) d_Model_feed_49
        ·
          refine X_iload d_Model_feed_31 rfl ?_
          refine X_callS (v := .int (xb (xin v 0 255))) (rest := []) (c_Model_isByte l G nn _ (by omega) v) lk_Model_isByte ml_Model_76 rfl (Nat.le_of_ble_eq_true rfl) (xRok (d' := d - 1) (by omega) (by decide)) ⟨Nat.le_refl _, Nat.le_refl _⟩ d_Model_feed_33 rfl ?_
          refine X_ifb_eq (tgt := 47) d_Model_feed_36 (by decide) (fun c_5 => ?_) (fun c_5 => ?_)
          ·
            refine X_bipush (v := -2) d_Model_feed_47 rfl ?_
            exact X_iret rfl (congrArg (fun q => some (Value.int q)) (by subst hSS; first | (simp [aFeedM, okFeed, hp, c_1, c_2, c_3, c_4, c_5, xl_1_0, xl_1_1, xl_2_0, xl_2_1, xl_2_2, xl_3_0, xl_3_1, xl_3_2, xl_3_3]; done) | (exfalso; simp_all; done) | (clear hTs hR hK0 hK; simp_all [aFeedM, okFeed, hp]; done))) (xle_of (congrArg (xm G xYf) (by first | (subst hSS; simp [mFeedM, okFeed, hp, c_1, c_2, c_3, c_4, c_5]; done) | (exfalso; simp_all; done)))) d_Model_feed_49
          ·
            refine X_iload d_Model_feed_39 rfl ?_
            refine X_callS (v := .int (xb (xin e 0 255))) (rest := []) (c_Model_isByte l G nn _ (by omega) e) lk_Model_isByte ml_Model_76 rfl (Nat.le_of_ble_eq_true rfl) (xRok (d' := d - 1) (by omega) (by decide)) ⟨Nat.le_refl _, Nat.le_refl _⟩ d_Model_feed_41 rfl ?_
            refine X_ifb_ne (tgt := 50) d_Model_feed_44 (by decide) (fun c_6 => ?_) (fun c_6 => ?_)
            ·
              refine X_aload_n d_Model_feed_50 rfl rfl ?_
              refine X_getI (v := nI p) fg_Model_55 (show xYf 59 = some sModel from rfl) rfl (hp) d_Model_feed_51 ?_
              refine X_iload_n d_Model_feed_54 rfl rfl ?_
              refine X_iadd d_Model_feed_55 ?_
              refine X_sipush (v := 160) d_Model_feed_56 rfl ?_
              refine X_icmp_le (tgt := 65) d_Model_feed_59 (by decide) (fun c_7 => ?_) (fun c_7 => ?_)
              ·
                refine X_iconst (v := 0) d_Model_feed_65 rfl ?_
                refine X_istore d_Model_feed_66 (by decide) [1, 2, 3, 4, 5, 6, 7, 0] (L' := [(0, .ref (xg G 59)), (1, .int n), (2, .int a), (3, .int b), (4, .int c), (5, .int v), (6, .int e), (7, .int 0)]) rfl ?_
                obtain ⟨N, hN, hNe⟩ : ∃ N, N ≤ 5 ∧ n = nI N := by have h1 := c_1; rw [xin_iff] at h1; obtain ⟨N, hN, e⟩ := nI_of (x := n) (Int32.not_lt.mpr (by have := h1.1; grind)); rw [e] at h1; exact ⟨N, (nI_leI hN (by decide)).mp h1.2, e⟩
                subst hNe
                have hle : p + N ≤ 160 := by have h7 := c_7; rw [nI_add] at h7; exact (nI_leI (by omega) (by decide)).mp h7
                have hx := xloop (Q := fun k => ∀ J p, J 59 5 = nI p → p + (N - k) ≤ 160 → Q_Model_feed l G d nn N a b c v e k J) (T := N) (fun k hk ih J p h1 h2 => w_Model_feed l G nn N hN a b c v e k hk ih J p h1 h2) 0 (Nat.zero_le _) I p hp (by omega)
                unfold Q_Model_feed at hx
                have e1 : okFeed (nI N) a b c v e = true := by simp [okFeed, c_1, c_2, c_3, c_4, c_5, c_6]
                rw [aFeedM, mFeedM, if_pos e1, if_pos e1, hp, if_pos c_7, if_pos c_7, nI_cl (show N < 2 ^ 31 by omega)]
                exact hx
              ·
                refine X_bipush (v := -4) d_Model_feed_62 rfl ?_
                exact X_iret rfl (congrArg (fun q => some (Value.int q)) (by subst hSS; first | (simp [aFeedM, okFeed, hp, c_1, c_2, c_3, c_4, c_5, c_6, c_7, Int32.not_le.mp c_7, xl_1_0, xl_1_1, xl_2_0, xl_2_1, xl_2_2, xl_3_0, xl_3_1, xl_3_2, xl_3_3]; done) | (exfalso; simp_all; done) | (clear hTs hR hK0 hK; simp_all [aFeedM, okFeed, hp]; done))) (xle_of (congrArg (xm G xYf) (by first | (subst hSS; simp [mFeedM, okFeed, hp, c_1, c_2, c_3, c_4, c_5, c_6, c_7, Int32.not_le.mp c_7]; done) | (exfalso; simp_all; done)))) d_Model_feed_64
            ·
              refine X_bipush (v := -2) d_Model_feed_47 rfl ?_
              exact X_iret rfl (congrArg (fun q => some (Value.int q)) (by subst hSS; first | (simp [aFeedM, okFeed, hp, c_1, c_2, c_3, c_4, c_5, c_6, xl_1_0, xl_1_1, xl_2_0, xl_2_1, xl_2_2, xl_3_0, xl_3_1, xl_3_2, xl_3_3]; done) | (exfalso; simp_all; done) | (clear hTs hR hK0 hK; simp_all [aFeedM, okFeed, hp]; done))) (xle_of (congrArg (xm G xYf) (by first | (subst hSS; simp [mFeedM, okFeed, hp, c_1, c_2, c_3, c_4, c_5, c_6]; done) | (exfalso; simp_all; done)))) d_Model_feed_49
