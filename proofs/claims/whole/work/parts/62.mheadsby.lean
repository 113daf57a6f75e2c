theorem mHead_o {I : xI} {hc : Nat} {kd more : Int32} {x : Nat} (h0 : x ≠ 59) (h1 : x ≠ 60) (h2 : x ≠ 61) (h3 : x ≠ 62) : mHeadM I hc kd more x = I x := by
  unfold mHeadM
  split
  · split
    · rfl
    · rw [xw_is, xup_n _ _ h0, xup_n _ _ h3, xw_is, xup_n _ _ h2, xw_is, xup_n _ _ h1]
  · rfl
theorem mOK_head {I : xI} {hc tc ln : Nat} {SS : Nat → xSay} (h : mOK I hc tc ln SS) (kd more : Int32) : mOK (mHeadM I hc kd more) (hbS hc kd more) tc ln SS := by
  unfold hbS
  by_cases hk : xin kd 0 5 = true ∧ xin more 0 9 = true
  · rw [if_pos hk]
    by_cases h5 : 5 ≤ hc
    · rw [if_pos h5, mHeadM, if_pos hk, if_pos h5]; exact h
    · have e64 : mHeadM I hc kd more 64 = I 64 := mHead_o (by decide) (by decide) (by decide) (by decide)
      have e65 : mHeadM I hc kd more 65 = I 65 := mHead_o (by decide) (by decide) (by decide) (by decide)
      obtain ⟨⟨g0, g5⟩, ⟨g8, g6⟩, ⟨g9, gl⟩, hTs, hR⟩ := h
      rw [if_neg h5]
      have em : mHeadM I hc kd more = xw (xup (xw (xw I 60 hc kd) 61 hc more) 62 (zrg (6 * hc) 6 (I 62))) 59 0 (nI hc + 1) := by rw [mHeadM, if_pos hk, if_neg h5]
      have e59 : ∀ j, j ≠ 0 → mHeadM I hc kd more 59 j = I 59 j := by
        intro j hj
        rw [em, xw_is, xup_s, xup_n _ _ hj, xup_n _ _ (show (59 : Nat) ≠ 62 by decide), xw_is, xup_n _ _ (show (59 : Nat) ≠ 61 by decide), xw_is, xup_n _ _ (show (59 : Nat) ≠ 60 by decide)]
      refine ⟨⟨?_, by omega⟩, ⟨(e59 8 (by decide)).trans g8, g6⟩, ⟨(e59 9 (by decide)).trans g9, gl⟩, fun j hj => mTx_kept (hTs j hj) e64 e65, ?_⟩
      · rw [em, xw_s, nI_1]
      · intro i hi
        have e61 : mHeadM I hc kd more 61 = xup (I 61) hc more := by
          rw [em, xw_is, xup_n _ _ (show (61 : Nat) ≠ 59 by decide), xup_n _ _ (show (61 : Nat) ≠ 62 by decide), xw_is, xup_s, xw_is, xup_n _ _ (show (61 : Nat) ≠ 60 by decide)]
        have e62 : mHeadM I hc kd more 62 = zrg (6 * hc) 6 (I 62) := by
          rw [em, xw_is, xup_n _ _ (show (62 : Nat) ≠ 59 by decide), xup_s]
        rw [e61, e62]
        constructor
        · by_cases e : i = hc
          · subst e
            rw [xup_s]
            have h2 := hk.2
            rw [xin_iff] at h2
            exact ⟨Int32.not_lt.mpr h2.1, h2.2⟩
          · rw [xup_n _ _ e]; exact (hR i hi).1
        · rw [zrg]
          split
          · exact Or.inl rfl
          · exact (hR i hi).2
  · rw [if_neg hk, mHeadM, if_neg hk]; exact h
abbrev hmOK (p : Int32) (k sz : Nat) : Prop := 0 ≤ p ∧ p.toNatClampNeg + 2 * k + 2 ≤ sz
def hmA (cl : Nat → Int32) (sz : Nat) (p : Int32) : Nat → Nat → Nat → Int32 → Int32
  | 0, _, _, c => c
  | r + 1, k, h, c => if hmOK p k sz then hmA cl sz p r (k + 1) (hbS h (cl (p.toNatClampNeg + 2 * k)) (cl (p.toNatClampNeg + 2 * k + 1))) (if aHead h (cl (p.toNatClampNeg + 2 * k)) (cl (p.toNatClampNeg + 2 * k + 1)) < 0 then c else c + 1) else -12
def hmM (cl : Nat → Int32) (sz : Nat) (p : Int32) : Nat → Nat → xI → Nat → xI
  | 0, _, J, _ => J
  | r + 1, k, J, h => if hmOK p k sz then hmM cl sz p r (k + 1) (mHeadM J h (cl (p.toNatClampNeg + 2 * k)) (cl (p.toNatClampNeg + 2 * k + 1))) (hbS h (cl (p.toNatClampNeg + 2 * k)) (cl (p.toNatClampNeg + 2 * k + 1))) else J
theorem hm_w {m : Nat} (h : m < 2 ^ 31 + 100) (h2 : 2 ^ 31 ≤ m) : nI m < 0 := by
  rw [Int32.lt_iff_toInt_lt]
  have e : (nI m).toInt = (m : Int).bmod (2 ^ 32) := Int32.toInt_ofNat
  rw [e, Int.bmod_def]
  simp
  omega
theorem hm_2 {x : Int32} {z : Nat} (h0 : 0 ≤ x) (hz : z ≤ 40) (hx : x ≤ nI z - 2) : 2 ≤ z := by
  have h1 := Int32.le_trans h0 hx
  match z, hz with
  | 0, _ => exact absurd h1 (by decide)
  | 1, _ => exact absurd h1 (by decide)
  | z + 2, _ => omega
theorem hm_ok {p : Int32} {k sz : Nat} (hk : k ≤ 5) (hs : sz ≤ 40) : hmOK p k sz ↔ ¬ p < 0 ∧ ¬ p + 2 * nI k < p ∧ p + 2 * nI k ≤ nI sz - 2 := by
  have e2 : 2 * nI k = nI (2 * k) := nI_mul 2 k
  rw [e2]
  constructor
  · intro h
    obtain ⟨pn, hp, rfl⟩ := nI_of (x := p) (Int32.not_lt.mpr h.1)
    have h2 := h.2
    rw [nI_cl hp] at h2
    rw [nI_add, show nI sz - 2 = nI (sz - 2) from pk_sub (a := sz) (b := 2) (by omega)]
    exact ⟨nI_pos hp, Int32.not_lt.mpr ((nI_leI hp (by omega)).mpr (by omega)), (nI_leI (by omega) (by omega)).mpr (by omega)⟩
  · intro h
    obtain ⟨h1, h2, h3⟩ := h
    obtain ⟨pn, hp, rfl⟩ := nI_of (x := p) h1
    rw [nI_add] at h2 h3
    have h0 : (0 : Int32) ≤ nI pn := Int32.not_lt.mp h1
    refine ⟨h0, ?_⟩
    rw [nI_cl hp]
    rcases Nat.lt_or_ge (pn + 2 * k) (2 ^ 31) with hw | hw
    · have h4 : (0 : Int32) ≤ nI (pn + 2 * k) := Int32.not_lt.mp (nI_pos hw)
      have h5 := hm_2 h4 hs h3
      rw [show nI sz - 2 = nI (sz - 2) from pk_sub (a := sz) (b := 2) h5] at h3
      have := (nI_leI hw (by omega)).mp h3
      omega
    · exact absurd (Int32.lt_of_lt_of_le (hm_w (by omega) hw) h0) h2
def Q_Model_headsBy (l : Launch) (G : xG) (d nn : Nat) (q : Nat) (sort p : Int32) (N z : Nat) (g : Nat → Int32) (k : Nat) (J : xI) (h : Nat) (c : Int32) : Prop := XW l G (xR d 0 0) y_Model_headsBy b_Model_headsBy 9 (some .int) xK0 (xZ G nn (xm G xYf (hmM (fun j => g (40 * q + j)) z p (N - k) k J h)) (some (.int (hmA (fun j => g (40 * q + j)) z p (N - k) k h c))) 0 0) nn (xm G xYf J) 0 0 63 [(0, .ref (xg G 59)), (1, .int (nI q)), (2, .int sort), (3, .int p), (4, .int (nI N)), (5, .int c), (6, .int (nI k))] []
theorem w_Model_headsBy (l : Launch) (G : xG) {d : Nat} (nn : Nat) (hd : 4 ≤ d) (tc ln : Nat) (SS : Nat → xSay) (q : Nat) (hq : q < 4) (sort p : Int32) (N z : Nat) (hN : N ≤ 5) (hz40 : z ≤ 40) (g : Nat → Int32) (k : Nat) (hk : k ≤ N) (ih : k < N → ∀ J h c, mOK J h tc ln SS → J 69 = g → J 68 q = nI z → Q_Model_headsBy l G d nn q sort p N z g (k + 1) J h c) (J : xI) (h : Nat) (c : Int32) (hJ : mOK J h tc ln SS) (hg : J 69 = g) (h68 : J 68 q = nI z) : Q_Model_headsBy l G d nn q sort p N z g k J h c := by
  unfold Q_Model_headsBy
  subst hg
  refine X_iload d_Model_headsBy_63 rfl ?_
  refine X_iload d_Model_headsBy_65 rfl ?_
  refine X_icmp_ge (tgt := 152) d_Model_headsBy_67 (by decide) (fun c_1 => ?_) (fun c_1 => ?_)
  ·
    refine X_iload d_Model_headsBy_152 rfl ?_
    have hz : N - k = 0 := by have := nI_done hk (by omega) c_1; omega
    rw [hz]
    exact X_iret rfl rfl (xle_rf _) d_Model_headsBy_154
  ·
    have hlt : k < N := nI_more hk (by omega) c_1
    have hz : N - k = (N - (k + 1)) + 1 := by omega
    refine X_iload_n d_Model_headsBy_70 rfl rfl ?_
    refine X_iconst (v := 2) d_Model_headsBy_71 rfl ?_
    refine X_iload d_Model_headsBy_72 rfl ?_
    refine X_imul d_Model_headsBy_74 ?_
    refine X_iadd d_Model_headsBy_75 ?_
    refine X_istore d_Model_headsBy_76 (by decide) [1, 2, 3, 4, 5, 6, 7, 0] (L' := [(0, .ref (xg G 59)), (1, .int (nI q)), (2, .int sort), (3, .int p), (4, .int (nI N)), (5, .int c), (6, .int (nI k)), (7, .int (p + (2 * (nI k))))]) rfl ?_
    refine X_iload_n d_Model_headsBy_78 rfl rfl ?_
    refine X_if_lt (tgt := 101) d_Model_headsBy_79 (by decide) (fun c_2 => ?_) (fun c_2 => ?_)
    ·
      refine X_bipush (v := -12) d_Model_headsBy_101 rfl ?_
      have hno : ¬ hmOK p k z := fun y => by have y2 := (hm_ok (by omega) hz40).mp y; rw [← h68] at y2; exact y2.1 c_2
      rw [hz, hmA, hmM, if_neg hno, if_neg hno]
      exact X_iret rfl rfl (xle_rf _) d_Model_headsBy_103
    ·
      refine X_iload d_Model_headsBy_82 rfl ?_
      refine X_iload_n d_Model_headsBy_84 rfl rfl ?_
      refine X_icmp_lt (tgt := 101) d_Model_headsBy_85 (by decide) (fun c_3 => ?_) (fun c_3 => ?_)
      ·
        refine X_bipush (v := -12) d_Model_headsBy_101 rfl ?_
        have hno : ¬ hmOK p k z := fun y => by have y2 := (hm_ok (by omega) hz40).mp y; rw [← h68] at y2; exact y2.2.1 c_3
        rw [hz, hmA, hmM, if_neg hno, if_neg hno]
        exact X_iret rfl rfl (xle_rf _) d_Model_headsBy_103
      ·
        refine X_iload d_Model_headsBy_88 rfl ?_
        refine X_aload_n d_Model_headsBy_90 rfl rfl ?_
        refine X_getR (r := 68) fg_Model_34 (show xYf 59 = some sModel from rfl) rfl d_Model_headsBy_91 ?_
        refine X_iload_n d_Model_headsBy_94 rfl rfl ?_
        refine X_aldI (v := J 68 q) (show xYf 68 = some (sInts 4) from rfl) (ixin (show nI q = nI q from rfl) (show q < 4 by omega) (by decide)) ((ixv (show nI q = nI q from rfl) (show q < 2 ^ 31 by omega) (rfl))) d_Model_headsBy_95 ?_
        refine X_iconst (v := 2) d_Model_headsBy_96 rfl ?_
        refine X_isub d_Model_headsBy_97 ?_
        refine X_icmp_le (tgt := 104) d_Model_headsBy_98 (by decide) (fun c_4 => ?_) (fun c_4 => ?_)
        ·
          have hok := (hm_ok (p := p) (k := k) (sz := z) (by omega) hz40).mpr (by rw [← h68]; exact ⟨c_2, c_3, c_4⟩)
          obtain ⟨pn, hpl, hpe⟩ := nI_of (x := p) c_2
          have hok2 := hok.2
          rw [hpe, nI_cl hpl] at hok2
          have hpn : p.toNatClampNeg = pn := by rw [hpe, nI_cl hpl]
          refine X_bipush (v := 40) d_Model_headsBy_104 rfl ?_
          refine X_iload_n d_Model_headsBy_106 rfl rfl ?_
          refine X_imul d_Model_headsBy_107 ?_
          refine X_iload d_Model_headsBy_108 rfl ?_
          refine X_iadd d_Model_headsBy_110 ?_
          rw [show (40 * (nI q)) + (p + (2 * (nI k))) = nI (40 * q + (pn + 2 * k)) from by rw [hpe, show 2 * nI k = nI (2 * k) from nI_mul 2 k, nI_add, cp_lin]]
          refine X_istore d_Model_headsBy_111 (by decide) [1, 2, 3, 4, 5, 6, 7, 8, 0] (L' := [(0, .ref (xg G 59)), (1, .int (nI q)), (2, .int sort), (3, .int p), (4, .int (nI N)), (5, .int c), (6, .int (nI k)), (7, .int (p + (2 * (nI k)))), (8, .int (nI (40 * q + (pn + 2 * k))))]) rfl ?_
          refine X_iload d_Model_headsBy_113 rfl ?_
          refine X_aload_n d_Model_headsBy_115 rfl rfl ?_
          refine X_aload_n d_Model_headsBy_116 rfl rfl ?_
          refine X_getR (r := 69) fg_Model_37 (show xYf 59 = some sModel from rfl) rfl d_Model_headsBy_117 ?_
          refine X_iload d_Model_headsBy_120 rfl ?_
          refine X_aldI (v := J 69 (40 * q + (pn + 2 * k))) (show xYf 69 = some (sInts 160) from rfl) (ixin (show nI (40 * q + (pn + 2 * k)) = nI (40 * q + (pn + 2 * k)) from rfl) (show 40 * q + (pn + 2 * k) < 160 by omega) (by decide)) ((ixv (show nI (40 * q + (pn + 2 * k)) = nI (40 * q + (pn + 2 * k)) from rfl) (show 40 * q + (pn + 2 * k) < 2 ^ 31 by omega) (rfl))) d_Model_headsBy_122 ?_
          refine X_aload_n d_Model_headsBy_123 rfl rfl ?_
          refine X_getR (r := 69) fg_Model_37 (show xYf 59 = some sModel from rfl) rfl d_Model_headsBy_124 ?_
          refine X_iload d_Model_headsBy_127 rfl ?_
          refine X_iconst (v := 1) d_Model_headsBy_129 rfl ?_
          refine X_iadd d_Model_headsBy_130 ?_
          refine X_aldI (v := J 69 (40 * q + (pn + 2 * k) + 1)) (show xYf 69 = some (sInts 160) from rfl) (ixin (ixA (show nI (40 * q + (pn + 2 * k)) = nI (40 * q + (pn + 2 * k)) from rfl) (show (1 : Int32) = nI 1 from rfl)) (show 40 * q + (pn + 2 * k) + 1 < 160 by omega) (by decide)) ((ixv (ixA (show nI (40 * q + (pn + 2 * k)) = nI (40 * q + (pn + 2 * k)) from rfl) (show (1 : Int32) = nI 1 from rfl)) (show 40 * q + (pn + 2 * k) + 1 < 2 ^ 31 by omega) (rfl))) d_Model_headsBy_131 ?_
          refine X_callV (v := .int (aHead h (J 69 (40 * q + (pn + 2 * k))) (J 69 (40 * q + (pn + 2 * k) + 1)))) (rest := [.int c]) (c_Model_head l G nn (by omega) J h tc ln SS hJ (J 69 (40 * q + (pn + 2 * k))) (J 69 (40 * q + (pn + 2 * k) + 1))) lk_Model_head ml_Model_270 (xm_obj (show xYf 59 = some sModel from rfl)) rfl rfl (Nat.le_of_ble_eq_true rfl) (xRok (d' := d - 1) (by omega) (by decide)) ⟨Nat.le_refl _, Nat.le_refl _⟩ d_Model_headsBy_132 rfl ?_
          refine X_if_lt (tgt := 142) d_Model_headsBy_135 (by decide) (fun c_5 => ?_) (fun c_5 => ?_)
          ·
            refine X_iconst (v := 0) d_Model_headsBy_142 rfl ?_
            refine X_iadd d_Model_headsBy_143 ?_
            refine X_istore d_Model_headsBy_144 (by decide) [1, 2, 3, 4, 5, 0, 6, 7, 8] (L' := [(0, .ref (xg G 59)), (1, .int (nI q)), (2, .int sort), (3, .int p), (4, .int (nI N)), (5, .int (c + 0)), (6, .int (nI k)), (7, .int (p + (2 * (nI k)))), (8, .int (nI (40 * q + (pn + 2 * k))))]) rfl ?_
            refine X_iinc d_Model_headsBy_146 rfl (v := (nI k) + 1) rfl (by decide) [1, 2, 3, 4, 5, 6, 0, 7, 8] (L' := [(0, .ref (xg G 59)), (1, .int (nI q)), (2, .int sort), (3, .int p), (4, .int (nI N)), (5, .int (c + 0)), (6, .int ((nI k) + 1)), (7, .int (p + (2 * (nI k)))), (8, .int (nI (40 * q + (pn + 2 * k))))]) rfl ?_
            refine X_goto (tgt := 63) d_Model_headsBy_149 (by decide) ?_
            rw [show c + 0 = c from Int32.add_zero c]
            have key := ih hlt (mHeadM J h (J 69 (40 * q + (pn + 2 * k))) (J 69 (40 * q + (pn + 2 * k) + 1))) (hbS h (J 69 (40 * q + (pn + 2 * k))) (J 69 (40 * q + (pn + 2 * k) + 1))) c (mOK_head hJ _ _) (mHead_o (by decide) (by decide) (by decide) (by decide)) ((congrFun (mHead_o (by decide) (by decide) (by decide) (by decide)) _).trans h68)
            unfold Q_Model_headsBy at key
            rw [hz, hmA, hmM, if_pos hok, if_pos hok, hpn, if_pos (show aHead h (J 69 (40 * q + (pn + 2 * k))) (J 69 (40 * q + (pn + 2 * k + 1))) < 0 from c_5), nI_1 k]
            refine X_sub [0, 1, 2, 3, 4, 5, 6] (L' := [(0, .ref (xg G 59)), (1, .int (nI q)), (2, .int sort), (3, .int p), (4, .int (nI N)), (5, .int c), (6, .int (nI (k + 1)))]) rfl ?_
            exact key
          ·
            refine X_iconst (v := 1) d_Model_headsBy_138 rfl ?_
            refine X_goto (tgt := 143) d_Model_headsBy_139 (by decide) ?_
            refine X_iadd d_Model_headsBy_143 ?_
            refine X_istore d_Model_headsBy_144 (by decide) [1, 2, 3, 4, 5, 0, 6, 7, 8] (L' := [(0, .ref (xg G 59)), (1, .int (nI q)), (2, .int sort), (3, .int p), (4, .int (nI N)), (5, .int (c + 1)), (6, .int (nI k)), (7, .int (p + (2 * (nI k)))), (8, .int (nI (40 * q + (pn + 2 * k))))]) rfl ?_
            refine X_iinc d_Model_headsBy_146 rfl (v := (nI k) + 1) rfl (by decide) [1, 2, 3, 4, 5, 6, 0, 7, 8] (L' := [(0, .ref (xg G 59)), (1, .int (nI q)), (2, .int sort), (3, .int p), (4, .int (nI N)), (5, .int (c + 1)), (6, .int ((nI k) + 1)), (7, .int (p + (2 * (nI k)))), (8, .int (nI (40 * q + (pn + 2 * k))))]) rfl ?_
            refine X_goto (tgt := 63) d_Model_headsBy_149 (by decide) ?_
            have key := ih hlt (mHeadM J h (J 69 (40 * q + (pn + 2 * k))) (J 69 (40 * q + (pn + 2 * k) + 1))) (hbS h (J 69 (40 * q + (pn + 2 * k))) (J 69 (40 * q + (pn + 2 * k) + 1))) (c + 1) (mOK_head hJ _ _) (mHead_o (by decide) (by decide) (by decide) (by decide)) ((congrFun (mHead_o (by decide) (by decide) (by decide) (by decide)) _).trans h68)
            unfold Q_Model_headsBy at key
            rw [hz, hmA, hmM, if_pos hok, if_pos hok, hpn, if_neg (show ¬ aHead h (J 69 (40 * q + (pn + 2 * k))) (J 69 (40 * q + (pn + 2 * k + 1))) < 0 from c_5), nI_1 k]
            refine X_sub [0, 1, 2, 3, 4, 5, 6] (L' := [(0, .ref (xg G 59)), (1, .int (nI q)), (2, .int sort), (3, .int p), (4, .int (nI N)), (5, .int (c + 1)), (6, .int (nI (k + 1)))]) rfl ?_
            exact key
        ·
          refine X_bipush (v := -12) d_Model_headsBy_101 rfl ?_
          have hno : ¬ hmOK p k z := fun y => by have y2 := (hm_ok (by omega) hz40).mp y; rw [← h68] at y2; exact absurd y2.2.2 c_4
          rw [hz, hmA, hmM, if_neg hno, if_neg hno]
          exact X_iret rfl rfl (xle_rf _) d_Model_headsBy_103
def aHeadsByM (hc : Nat) (I : xI) (sz : Nat → Nat) (s sort p n : Int32) : Int32 := if xin s 0 3 = true ∧ xin sort 0 2 = true ∧ xin n 0 5 = true then (if I 67 s.toNatClampNeg = -1 then -11 else if I 67 s.toNatClampNeg = sort then hmA (fun j => I 69 (40 * s.toNatClampNeg + j)) (sz s.toNatClampNeg) p n.toNatClampNeg 0 hc 0 else -13) else -2
def mHeadsByM (hc : Nat) (I : xI) (sz : Nat → Nat) (s sort p n : Int32) : xI := if xin s 0 3 = true ∧ xin sort 0 2 = true ∧ xin n 0 5 = true then (if I 67 s.toNatClampNeg = -1 then I else if I 67 s.toNatClampNeg = sort then hmM (fun j => I 69 (40 * s.toNatClampNeg + j)) (sz s.toNatClampNeg) p n.toNatClampNeg 0 I hc else I) else I
theorem c_Model_headsBy (l : Launch) (G : xG) {d : Nat} (nn : Nat) (hd : 4 ≤ d) (I : xI) (hc tc ln : Nat) (SS : Nat → xSay) (hK0 : mOK I hc tc ln SS) (sz : Nat → Nat) (hsz : msOK I sz) (s sort p n : Int32) : XM l G d y_Model_headsBy b_Model_headsBy 9 (some .int) 0 0 xK0 [.ref (xg G 59), .int s, .int sort, .int p, .int n] nn (xm G xYf I) (some (.int (aHeadsByM hc I sz s sort p n))) nn (xm G xYf (mHeadsByM hc I sz s sort p n)) := by
  obtain ⟨⟨h0, h5⟩, ⟨h8, h6⟩, ⟨h9, hl⟩, hTs, hR⟩ := id hK0
  have hK : mK I ln (SS ln) := ⟨hTs ln hl, h9, by omega⟩
  generalize hSS : SS ln = S at hK ⊢
  refine XM.of (by decide) (Nat.le_of_ble_eq_true rfl) (L := [(0, .ref (xg G 59)), (1, .int s), (2, .int sort), (3, .int p), (4, .int n)]) rfl ?_
  refine X_iload_n d_Model_headsBy_0 rfl rfl ?_
  refine X_iconst (v := 0) d_Model_headsBy_1 rfl ?_
  refine X_iconst (v := 3) d_Model_headsBy_2 rfl ?_
  refine X_callS (v := .int (xb (xin s 0 3))) (rest := []) (c_Model_in l G nn _ (by omega) s 0 3) lk_Model_in ml_Model_66 rfl (Nat.le_of_ble_eq_true rfl) (xRok (d' := d - 1) (by omega) (by decide)) ⟨Nat.le_refl _, Nat.le_refl _⟩ d_Model_headsBy_3 rfl ?_
  refine X_ifb_eq (tgt := 28) d_Model_headsBy_6 (by decide) (fun c_1 => ?_) (fun c_1 => ?_)
  ·
    refine X_bipush (v := -2) d_Model_headsBy_28 rfl ?_
    exact X_iret rfl (congrArg (fun q => some (Value.int q)) (by subst hSS; first | (simp [aHeadsByM, c_1, xl_1_0, xl_1_1, xl_2_0, xl_2_1, xl_2_2, xl_3_0, xl_3_1, xl_3_2, xl_3_3]; done) | (exfalso; simp_all; done) | (clear hTs hR hK0 hK; simp_all [aHeadsByM]; done))) (xle_of (congrArg (xm G xYf) (by first | (subst hSS; simp [mHeadsByM, c_1]; done) | (exfalso; simp_all; done)))) d_Model_headsBy_30
  ·
    obtain ⟨q, hq0, rfl⟩ := cTop (n := 3) (by decide) c_1
    have hq : q < 4 := by omega
    refine X_iload_n d_Model_headsBy_9 rfl rfl ?_
    refine X_iconst (v := 0) d_Model_headsBy_10 rfl ?_
    refine X_iconst (v := 2) d_Model_headsBy_11 rfl ?_
    refine X_callS (v := .int (xb (xin sort 0 2))) (rest := []) (c_Model_in l G nn _ (by omega) sort 0 2) lk_Model_in ml_Model_66 rfl (Nat.le_of_ble_eq_true rfl) (xRok (d' := d - 1) (by omega) (by decide)) ⟨Nat.le_refl _, Nat.le_refl _⟩ d_Model_headsBy_12 rfl ?_
    refine X_ifb_eq (tgt := 28) d_Model_headsBy_15 (by decide) (fun c_2 => ?_) (fun c_2 => ?_)
    ·
      refine X_bipush (v := -2) d_Model_headsBy_28 rfl ?_
      exact X_iret rfl (congrArg (fun q => some (Value.int q)) (by subst hSS; first | (simp [aHeadsByM, c_1, nI_cl (show q < 2 ^ 31 by omega), c_2, xl_1_0, xl_1_1, xl_2_0, xl_2_1, xl_2_2, xl_3_0, xl_3_1, xl_3_2, xl_3_3]; done) | (exfalso; simp_all; done) | (clear hTs hR hK0 hK; simp_all [aHeadsByM, nI_cl (show q < 2 ^ 31 by omega)]; done))) (xle_of (congrArg (xm G xYf) (by first | (subst hSS; simp [mHeadsByM, c_1, nI_cl (show q < 2 ^ 31 by omega), c_2]; done) | (exfalso; simp_all; done)))) d_Model_headsBy_30
    ·
      refine X_iload d_Model_headsBy_18 rfl ?_
      refine X_iconst (v := 0) d_Model_headsBy_20 rfl ?_
      refine X_iconst (v := 5) d_Model_headsBy_21 rfl ?_
      refine X_callS (v := .int (xb (xin n 0 5))) (rest := []) (c_Model_in l G nn _ (by omega) n 0 5) lk_Model_in ml_Model_66 rfl (Nat.le_of_ble_eq_true rfl) (xRok (d' := d - 1) (by omega) (by decide)) ⟨Nat.le_refl _, Nat.le_refl _⟩ d_Model_headsBy_22 rfl ?_
      refine X_ifb_ne (tgt := 31) d_Model_headsBy_25 (by decide) (fun c_3 => ?_) (fun c_3 => ?_)
      ·
        refine X_aload_n d_Model_headsBy_31 rfl rfl ?_
        refine X_getR (r := 67) fg_Model_31 (show xYf 59 = some sModel from rfl) rfl d_Model_headsBy_32 ?_
        refine X_iload_n d_Model_headsBy_35 rfl rfl ?_
        refine X_aldI (v := I 67 q) (show xYf 67 = some (sInts 4) from rfl) (ixin (show nI q = nI q from rfl) (show q < 4 by omega) (by decide)) ((ixv (show nI q = nI q from rfl) (show q < 2 ^ 31 by omega) (rfl))) d_Model_headsBy_36 ?_
        refine X_iconst (v := -1) d_Model_headsBy_37 rfl ?_
        refine X_icmp_ne (tgt := 44) d_Model_headsBy_38 (by decide) (fun c_4 => ?_) (fun c_4 => ?_)
        ·
          refine X_aload_n d_Model_headsBy_44 rfl rfl ?_
          refine X_getR (r := 67) fg_Model_31 (show xYf 59 = some sModel from rfl) rfl d_Model_headsBy_45 ?_
          refine X_iload_n d_Model_headsBy_48 rfl rfl ?_
          refine X_aldI (v := I 67 q) (show xYf 67 = some (sInts 4) from rfl) (ixin (show nI q = nI q from rfl) (show q < 4 by omega) (by decide)) ((ixv (show nI q = nI q from rfl) (show q < 2 ^ 31 by omega) (rfl))) d_Model_headsBy_49 ?_
          refine X_iload_n d_Model_headsBy_50 rfl rfl ?_
          refine X_icmp_eq (tgt := 57) d_Model_headsBy_51 (by decide) (fun c_5 => ?_) (fun c_5 => ?_)
          ·
            refine X_iconst (v := 0) d_Model_headsBy_57 rfl ?_
            refine X_istore d_Model_headsBy_58 (by decide) [1, 2, 3, 4, 5, 0] (L' := [(0, .ref (xg G 59)), (1, .int (nI q)), (2, .int sort), (3, .int p), (4, .int n), (5, .int 0)]) rfl ?_
            refine X_iconst (v := 0) d_Model_headsBy_60 rfl ?_
            refine X_istore d_Model_headsBy_61 (by decide) [1, 2, 3, 4, 5, 6, 0] (L' := [(0, .ref (xg G 59)), (1, .int (nI q)), (2, .int sort), (3, .int p), (4, .int n), (5, .int 0), (6, .int 0)]) rfl ?_
            obtain ⟨N, hN, hNe⟩ := cTop (n := 5) (by decide) c_3
            subst hNe
            have hx := xloop (Q := fun k => ∀ J h c, mOK J h tc ln SS → J 69 = I 69 → J 68 q = nI (sz q) → Q_Model_headsBy l G d nn q sort p N (sz q) (I 69) k J h c) (T := N) (fun k hk ih J h c hJ e1 e2 => w_Model_headsBy l G nn hd tc ln SS q hq sort p N (sz q) hN (hsz q hq).2 (I 69) k hk ih J h c hJ e1 e2) 0 (Nat.zero_le _) I hc 0 hK0 rfl (hsz q hq).1
            unfold Q_Model_headsBy at hx
            rw [Nat.sub_zero] at hx
            have e_aHeadsByM : aHeadsByM hc I sz (nI q) sort p (nI N) = hmA (fun j => I 69 (40 * q + j)) (sz q) p N 0 hc 0 := by rw [aHeadsByM, if_pos ⟨c_1, c_2, c_3⟩, nI_cl (show q < 2 ^ 31 by omega), if_neg c_4, if_pos c_5, nI_cl (show N < 2 ^ 31 by omega)]
            have e_mHeadsByM : mHeadsByM hc I sz (nI q) sort p (nI N) = hmM (fun j => I 69 (40 * q + j)) (sz q) p N 0 I hc := by rw [mHeadsByM, if_pos ⟨c_1, c_2, c_3⟩, nI_cl (show q < 2 ^ 31 by omega), if_neg c_4, if_pos c_5, nI_cl (show N < 2 ^ 31 by omega)]
            rw [e_aHeadsByM, e_mHeadsByM]
            exact hx
          ·
            refine X_bipush (v := -13) d_Model_headsBy_54 rfl ?_
            exact X_iret rfl (congrArg (fun q => some (Value.int q)) (by subst hSS; first | (simp [aHeadsByM, c_1, nI_cl (show q < 2 ^ 31 by omega), c_2, c_3, c_4, c_5, xl_1_0, xl_1_1, xl_2_0, xl_2_1, xl_2_2, xl_3_0, xl_3_1, xl_3_2, xl_3_3]; done) | (exfalso; simp_all; done) | (clear hTs hR hK0 hK; simp_all [aHeadsByM, nI_cl (show q < 2 ^ 31 by omega)]; done))) (xle_of (congrArg (xm G xYf) (by first | (subst hSS; simp [mHeadsByM, c_1, nI_cl (show q < 2 ^ 31 by omega), c_2, c_3, c_4, c_5]; done) | (exfalso; simp_all; done)))) d_Model_headsBy_56
        ·
          refine X_bipush (v := -11) d_Model_headsBy_41 rfl ?_
          exact X_iret rfl (congrArg (fun q => some (Value.int q)) (by subst hSS; first | (simp [aHeadsByM, c_1, nI_cl (show q < 2 ^ 31 by omega), c_2, c_3, c_4, xl_1_0, xl_1_1, xl_2_0, xl_2_1, xl_2_2, xl_3_0, xl_3_1, xl_3_2, xl_3_3]; done) | (exfalso; simp_all; done) | (clear hTs hR hK0 hK; simp_all [aHeadsByM, nI_cl (show q < 2 ^ 31 by omega)]; done))) (xle_of (congrArg (xm G xYf) (by first | (subst hSS; simp [mHeadsByM, c_1, nI_cl (show q < 2 ^ 31 by omega), c_2, c_3, c_4]; done) | (exfalso; simp_all; done)))) d_Model_headsBy_43
      ·
        refine X_bipush (v := -2) d_Model_headsBy_28 rfl ?_
        exact X_iret rfl (congrArg (fun q => some (Value.int q)) (by subst hSS; first | (simp [aHeadsByM, c_1, nI_cl (show q < 2 ^ 31 by omega), c_2, c_3, xl_1_0, xl_1_1, xl_2_0, xl_2_1, xl_2_2, xl_3_0, xl_3_1, xl_3_2, xl_3_3]; done) | (exfalso; simp_all; done) | (clear hTs hR hK0 hK; simp_all [aHeadsByM, nI_cl (show q < 2 ^ 31 by omega)]; done))) (xle_of (congrArg (xm G xYf) (by first | (subst hSS; simp [mHeadsByM, c_1, nI_cl (show q < 2 ^ 31 by omega), c_2, c_3]; done) | (exfalso; simp_all; done)))) d_Model_headsBy_30
