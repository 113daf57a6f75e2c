theorem zRn_y {Q : Int32 → Bool} {g : Nat → Int32} {n f p : Nat} (h : p < n) (hq : Q (g p) = true) : rRun Q g n (f + 1) p = rRun Q g n f (p + 1) := by rw [rRun, rB, if_pos h, if_pos hq]
theorem zRn_e {Q : Int32 → Bool} {g : Nat → Int32} {n : Nat} (h1 : Q (-1) = false) : ∀ (f : Nat) {p : Nat}, ¬ p < n → rRun Q g n f p = p
  | 0, _, _ => rfl
  | f + 1, p, h => by rw [rRun, rB, if_neg h, if_neg (by rw [h1]; decide)]
theorem zRn_x {Q : Int32 → Bool} {g : Nat → Int32} {n f p : Nat} (h : p < n) (hq : Q (g p) = false) : rRun Q g n (f + 1) p = p := by rw [rRun, rB, if_pos h, if_neg (by rw [hq]; decide)]
theorem zRn_b {Q : Int32 → Bool} {g : Nat → Int32} {n : Nat} (h1 : Q (-1) = false) : ∀ (f p : Nat), p ≤ n → p ≤ rRun Q g n f p ∧ rRun Q g n f p ≤ n
  | 0, p, h => ⟨Nat.le_refl _, h⟩
  | f + 1, p, h => by
    rw [rRun]
    split
    · rename_i hq
      have hp : p < n := by
        apply Nat.lt_of_not_le
        intro z
        rw [rB, if_neg (by omega), h1] at hq
        exact absurd hq (by decide)
      have := zRn_b (g := g) h1 f (p + 1) hp
      omega
    · exact ⟨Nat.le_refl _, h⟩
theorem zDv_y {g : Nat → Int32} {q i : Nat} (h : i < 4) : zDv g q (i + 1) = 10 * zDv g q i + g (q + i) - 48 := by rw [zDv, if_pos h]
theorem zDv_n {g : Nat → Int32} {q i : Nat} (h : ¬ i < 4) : zDv g q (i + 1) = 0 := by rw [zDv, if_neg h]
def Qn (l : Launch) (G : xG) (d nn : Nat) (I : xI) (C H Rf R : Nat → Int32) (pc : Nat) (L : List (Nat × Value)) : Prop := XW l G (xR d 0 0) y_Model_next b_Model_next 3 none xK0 (xZ G nn (xm G (xup xYf 72 (some (sInts 200))) (xup (xup (xup I 64 C) 72 H) 59 Rf)) none 0 0) nn (xm G (xup xYf 72 (some (sInts 200))) (xup (xup (xup I 64 C) 72 H) 59 R)) 0 0 pc L []
theorem n146 (l : Launch) (G : xG) {d : Nat} (nn : Nat) (hd : 3 ≤ d) (I : xI) (n : Nat) (h5 : I 59 5 = nI n) (hn : n ≤ 160) (C H : Nat → Int32) (b t v hm op ou : Int32) (q e : Nat) (hqe : q ≤ e) (he : e ≤ 160) (ch : Int32) : Qn l G d nn I C H (zS (I 59) (nI e) (nI q) (zTw (zWf (I 71) (I 63) q e 12 0)) (zVw (zWf (I 71) (I 63) q e 12 0)) hm op ou) (zS (I 59) (nI e) (nI q) t v hm op ou) 146 [(0, .ref (xg G 59)), (1, .int ch)] := by
  unfold Qn
  generalize hW : zWf (I 71) (I 63) q e 12 0 = wd
  refine X_aload_n d_Model_next_146 rfl rfl ?_
  refine X_aload_n d_Model_next_147 rfl rfl ?_
  refine X_getI (v := nI q) fg_Model_83 (show (xup xYf 72 (some (sInts 200))) 59 = some sModel from rfl) rfl ((congrFun (xup_s _ _ _) _).trans (zS_19 _ _ _ _ _ _ _ _)) d_Model_next_148 ?_
  refine X_aload_n d_Model_next_151 rfl rfl ?_
  refine X_getI (v := nI e) fg_Model_80 (show (xup xYf 72 (some (sInts 200))) 59 = some sModel from rfl) rfl ((congrFun (xup_s _ _ _) _).trans (zS_18 _ _ _ _ _ _ _ _)) d_Model_next_152 ?_
  refine X_callV (v := .int wd) (rest := []) (by have q0 := c_Model_wordFrom l G (d := d - 1) nn I C H (zS (I 59) (nI e) (nI q) t v hm op ou) q e he hqe; rw [hW] at q0; exact q0) lk_Model_wordFrom ml_Model_92 (xm_obj (show (xup xYf 72 (some (sInts 200))) 59 = some sModel from rfl)) rfl rfl (Nat.le_of_ble_eq_true rfl) (xRok (d' := d - 1) (by omega) (by decide)) ⟨Nat.le_refl _, Nat.le_refl _⟩ d_Model_next_155 rfl ?_
  refine X_istore_n d_Model_next_158 rfl (by decide) [1, 2, 0] (L' := [(0, .ref (xg G 59)), (1, .int ch), (2, .int wd)]) rfl ?_
  refine X_aload_n d_Model_next_159 rfl rfl ?_
  refine X_iload_n d_Model_next_160 rfl rfl ?_
  refine X_iconst (v := 3) d_Model_next_161 rfl ?_
  refine X_icmp_ge (tgt := 169) d_Model_next_162 (by decide) (fun c_1 => ?_) (fun c_1 => ?_)
  ·
    refine X_iload_n d_Model_next_169 rfl rfl ?_
    refine X_bipush (v := 9) d_Model_next_170 rfl ?_
    refine X_icmp_ge (tgt := 179) d_Model_next_172 (by decide) (fun c_2 => ?_) (fun c_2 => ?_)
    ·
      refine X_iload_n d_Model_next_179 rfl rfl ?_
      refine X_bipush (v := 12) d_Model_next_180 rfl ?_
      refine X_icmp_ne (tgt := 189) d_Model_next_182 (by decide) (fun c_3 => ?_) (fun c_3 => ?_)
      ·
        refine X_iconst (v := 4) d_Model_next_189 rfl ?_
        refine X_iload_n d_Model_next_190 rfl rfl ?_
        refine X_iadd d_Model_next_191 ?_
        refine X_bipush (v := 9) d_Model_next_192 rfl ?_
        refine X_isub d_Model_next_194 ?_
        refine X_putI fp_Model_86 (show (xup xYf 72 (some (sInts 200))) 59 = some sModel from rfl) rfl d_Model_next_195 ?_
        rw [xw_rec]
        rw [zSs_20]
        refine X_aload_n d_Model_next_198 rfl rfl ?_
        refine X_iload_n d_Model_next_199 rfl rfl ?_
        refine X_iconst (v := 3) d_Model_next_200 rfl ?_
        refine X_icmp_ge (tgt := 208) d_Model_next_201 (by decide) (fun _ => ?_) (fun c_4 => absurd c_4 (fun z => z c_1))
        refine X_iload_n d_Model_next_208 rfl rfl ?_
        refine X_iconst (v := 3) d_Model_next_209 rfl ?_
        refine X_isub d_Model_next_210 ?_
        refine X_putI fp_Model_89 (show (xup xYf 72 (some (sInts 200))) 59 = some sModel from rfl) rfl d_Model_next_211 ?_
        rw [xw_rec]
        rw [zSs_21]
        refine X_goto (tgt := 403) d_Model_next_214 (by decide) ?_
        have e1 : zTw wd = ((4 + wd) - 9) := by unfold zTw; grind
        have e2 : zVw wd = (wd - 3) := by unfold zVw; grind
        rw [e1, e2]
        exact X_vret rfl rfl (xle_rf _) d_Model_next_403
      ·
        refine X_iconst (v := -1) d_Model_next_185 rfl ?_
        refine X_goto (tgt := 195) d_Model_next_186 (by decide) ?_
        refine X_putI fp_Model_86 (show (xup xYf 72 (some (sInts 200))) 59 = some sModel from rfl) rfl d_Model_next_195 ?_
        rw [xw_rec]
        rw [zSs_20]
        refine X_aload_n d_Model_next_198 rfl rfl ?_
        refine X_iload_n d_Model_next_199 rfl rfl ?_
        refine X_iconst (v := 3) d_Model_next_200 rfl ?_
        refine X_icmp_ge (tgt := 208) d_Model_next_201 (by decide) (fun _ => ?_) (fun c_5 => absurd c_5 (fun z => z c_1))
        refine X_iload_n d_Model_next_208 rfl rfl ?_
        refine X_iconst (v := 3) d_Model_next_209 rfl ?_
        refine X_isub d_Model_next_210 ?_
        refine X_putI fp_Model_89 (show (xup xYf 72 (some (sInts 200))) 59 = some sModel from rfl) rfl d_Model_next_211 ?_
        rw [xw_rec]
        rw [zSs_21]
        refine X_goto (tgt := 403) d_Model_next_214 (by decide) ?_
        have e1 : zTw wd = (-1) := by unfold zTw; grind
        have e2 : zVw wd = (wd - 3) := by unfold zVw; grind
        rw [e1, e2]
        exact X_vret rfl rfl (xle_rf _) d_Model_next_403
    ·
      refine X_iconst (v := 2) d_Model_next_175 rfl ?_
      refine X_goto (tgt := 195) d_Model_next_176 (by decide) ?_
      refine X_putI fp_Model_86 (show (xup xYf 72 (some (sInts 200))) 59 = some sModel from rfl) rfl d_Model_next_195 ?_
      rw [xw_rec]
      rw [zSs_20]
      refine X_aload_n d_Model_next_198 rfl rfl ?_
      refine X_iload_n d_Model_next_199 rfl rfl ?_
      refine X_iconst (v := 3) d_Model_next_200 rfl ?_
      refine X_icmp_ge (tgt := 208) d_Model_next_201 (by decide) (fun _ => ?_) (fun c_6 => absurd c_6 (fun z => z c_1))
      refine X_iload_n d_Model_next_208 rfl rfl ?_
      refine X_iconst (v := 3) d_Model_next_209 rfl ?_
      refine X_isub d_Model_next_210 ?_
      refine X_putI fp_Model_89 (show (xup xYf 72 (some (sInts 200))) 59 = some sModel from rfl) rfl d_Model_next_211 ?_
      rw [xw_rec]
      rw [zSs_21]
      refine X_goto (tgt := 403) d_Model_next_214 (by decide) ?_
      have e1 : zTw wd = 2 := by unfold zTw; grind
      have e2 : zVw wd = (wd - 3) := by unfold zVw; grind
      rw [e1, e2]
      exact X_vret rfl rfl (xle_rf _) d_Model_next_403
  ·
    refine X_iconst (v := 3) d_Model_next_165 rfl ?_
    refine X_goto (tgt := 195) d_Model_next_166 (by decide) ?_
    refine X_putI fp_Model_86 (show (xup xYf 72 (some (sInts 200))) 59 = some sModel from rfl) rfl d_Model_next_195 ?_
    rw [xw_rec]
    rw [zSs_20]
    refine X_aload_n d_Model_next_198 rfl rfl ?_
    refine X_iload_n d_Model_next_199 rfl rfl ?_
    refine X_iconst (v := 3) d_Model_next_200 rfl ?_
    refine X_icmp_ge (tgt := 208) d_Model_next_201 (by decide) (fun c_7 => absurd c_7 c_1) (fun _ => ?_)
    refine X_iload_n d_Model_next_204 rfl rfl ?_
    refine X_goto (tgt := 211) d_Model_next_205 (by decide) ?_
    refine X_putI fp_Model_89 (show (xup xYf 72 (some (sInts 200))) 59 = some sModel from rfl) rfl d_Model_next_211 ?_
    rw [xw_rec]
    rw [zSs_21]
    refine X_goto (tgt := 403) d_Model_next_214 (by decide) ?_
    have e1 : zTw wd = 3 := by unfold zTw; grind
    have e2 : zVw wd = wd := by unfold zVw; grind
    rw [e1, e2]
    exact X_vret rfl rfl (xle_rf _) d_Model_next_403
theorem n103 (l : Launch) (G : xG) {d : Nat} (nn : Nat) (hd : 3 ≤ d) (I : xI) (n : Nat) (h5 : I 59 5 = nI n) (hn : n ≤ 160) (C H : Nat → Int32) (b t v hm op ou : Int32) (Rf : Nat → Int32) (q : Nat) (ch : Int32) : ∀ (f p : Nat), p ≤ n → n ≤ p + f → (Qn l G d nn I C H Rf (zS (I 59) (nI (rRun bLetter (I 63) n f p)) (nI q) t v hm op ou) 146 [(0, .ref (xg G 59)), (1, .int ch)]) → Qn l G d nn I C H Rf (zS (I 59) (nI p) (nI q) t v hm op ou) 103 [(0, .ref (xg G 59)), (1, .int ch)] := by
  intro f
  induction f with
  | zero =>
    intro p hp hpf hc
    unfold Qn
    refine X_aload_n d_Model_next_103 rfl rfl ?_
    refine X_getI (v := nI p) fg_Model_80 (show (xup xYf 72 (some (sInts 200))) 59 = some sModel from rfl) rfl ((congrFun (xup_s _ _ _) _).trans (zS_18 _ _ _ _ _ _ _ _)) d_Model_next_104 ?_
    refine X_aload_n d_Model_next_107 rfl rfl ?_
    refine X_getI (v := nI n) fg_Model_55 (show (xup xYf 72 (some (sInts 200))) 59 = some sModel from rfl) rfl ((congrFun (xup_s _ _ _) _).trans ((zS_o _ _ _ _ _ _ _ _ (by decide)).trans (h5))) d_Model_next_108 ?_
    refine X_icmp_ge (tgt := 146) d_Model_next_111 (by decide) (fun _ => ?_) (fun c_1 => absurd c_1 (not_not_intro (nI_le (by omega) (by omega))))
    rw [show rRun bLetter (I 63) n 0 p = p from zRn_e (by decide) _ (by omega)] at hc
    unfold Qn at hc
    exact hc
  | succ f ih =>
    intro p hp hpf hc
    unfold Qn
    refine X_aload_n d_Model_next_103 rfl rfl ?_
    refine X_getI (v := nI p) fg_Model_80 (show (xup xYf 72 (some (sInts 200))) 59 = some sModel from rfl) rfl ((congrFun (xup_s _ _ _) _).trans (zS_18 _ _ _ _ _ _ _ _)) d_Model_next_104 ?_
    refine X_aload_n d_Model_next_107 rfl rfl ?_
    refine X_getI (v := nI n) fg_Model_55 (show (xup xYf 72 (some (sInts 200))) 59 = some sModel from rfl) rfl ((congrFun (xup_s _ _ _) _).trans ((zS_o _ _ _ _ _ _ _ _ (by decide)).trans (h5))) d_Model_next_108 ?_
    refine X_icmp_ge (tgt := 146) d_Model_next_111 (by decide) (fun c_1 => ?_) (fun c_1 => ?_)
    ·
      rw [show rRun bLetter (I 63) n (f + 1) p = p from zRn_e (by decide) _ (fun z => absurd (nI_lt z (by omega)) (Int32.not_lt.mpr c_1))] at hc
      unfold Qn at hc
      exact hc
    ·
      have hpn : p < n := Nat.lt_of_not_le (fun z => c_1 (nI_le z (by omega)))
      refine X_aload_n d_Model_next_114 rfl rfl ?_
      refine X_getR (r := 63) fg_Model_19 (show (xup xYf 72 (some (sInts 200))) 59 = some sModel from rfl) rfl d_Model_next_115 ?_
      refine X_aload_n d_Model_next_118 rfl rfl ?_
      refine X_getI (v := nI p) fg_Model_80 (show (xup xYf 72 (some (sInts 200))) 59 = some sModel from rfl) rfl ((congrFun (xup_s _ _ _) _).trans (zS_18 _ _ _ _ _ _ _ _)) d_Model_next_119 ?_
      refine X_aldI (v := I 63 p) (show (xup xYf 72 (some (sInts 200))) 63 = some (sInts 160) from rfl) (ixin (show nI p = nI p from rfl) (show p < 160 by omega) (by decide)) ((ixv (show nI p = nI p from rfl) (show p < 2 ^ 31 by omega) ((congrFun (xup_n _ _ (by decide)) _).trans ((congrFun (xup_n _ _ (by decide)) _).trans (congrFun (xup_n _ _ (by decide)) _))))) d_Model_next_122 ?_
      refine X_bipush (v := 97) d_Model_next_123 rfl ?_
      refine X_bipush (v := 122) d_Model_next_125 rfl ?_
      refine X_callS (v := .int (xb (xin (I 63 p) 97 122))) (rest := []) (c_Model_in l G nn _ (by omega) (I 63 p) 97 122) lk_Model_in ml_Model_66 rfl (Nat.le_of_ble_eq_true rfl) (xRok (d' := d - 1) (by omega) (by decide)) ⟨Nat.le_refl _, Nat.le_refl _⟩ d_Model_next_127 rfl ?_
      refine X_ifb_eq (tgt := 146) d_Model_next_130 (by decide) (fun c_2 => ?_) (fun c_2 => ?_)
      ·
        rw [show rRun bLetter (I 63) n (f + 1) p = p from zRn_x hpn c_2] at hc
        unfold Qn at hc
        exact hc
      ·
        refine X_aload_n d_Model_next_133 rfl rfl ?_
        refine X_dup d_Model_next_134 rfl ?_
        refine X_getI (v := nI p) fg_Model_80 (show (xup xYf 72 (some (sInts 200))) 59 = some sModel from rfl) rfl ((congrFun (xup_s _ _ _) _).trans (zS_18 _ _ _ _ _ _ _ _)) d_Model_next_135 ?_
        refine X_iconst (v := 1) d_Model_next_138 rfl ?_
        refine X_iadd d_Model_next_139 ?_
        refine X_putI fp_Model_80 (show (xup xYf 72 (some (sInts 200))) 59 = some sModel from rfl) rfl d_Model_next_140 ?_
        rw [xw_rec]
        rw [zSs_18]
        refine X_goto (tgt := 103) d_Model_next_143 (by decide) ?_
        rw [zRn_y hpn (show bLetter (I 63 p) = true from c_2)] at hc
        have key := ih (p + 1) (by omega) (by omega) hc
        unfold Qn at key
        rw [nI_1]
        exact key
theorem n230 (l : Launch) (G : xG) {d : Nat} (nn : Nat) (hd : 3 ≤ d) (I : xI) (n : Nat) (h5 : I 59 5 = nI n) (hn : n ≤ 160) (C H : Nat → Int32) (b hm op ou : Int32) (q : Nat) (ch : Int32) : ∀ (f i : Nat), q + i ≤ n → n ≤ q + i + f → Qn l G d nn I C H (zS (I 59) (nI (rRun bDigit (I 63) n f (q + i))) (nI q) (if 4 < nI (rRun bDigit (I 63) n f (q + i) - q) then -1 else 1) (zDv (I 63) q (rRun bDigit (I 63) n f (q + i) - q)) hm op ou) (zS (I 59) (nI (q + i)) (nI q) 0 (zDv (I 63) q i) hm op ou) 230 [(0, .ref (xg G 59)), (1, .int ch), (2, .int (nI i))] := by
  intro f
  induction f with
  | zero =>
    intro i hp hpf
    unfold Qn
    refine X_aload_n d_Model_next_230 rfl rfl ?_
    refine X_getI (v := nI (q + i)) fg_Model_80 (show (xup xYf 72 (some (sInts 200))) 59 = some sModel from rfl) rfl ((congrFun (xup_s _ _ _) _).trans (zS_18 _ _ _ _ _ _ _ _)) d_Model_next_231 ?_
    refine X_aload_n d_Model_next_234 rfl rfl ?_
    refine X_getI (v := nI n) fg_Model_55 (show (xup xYf 72 (some (sInts 200))) 59 = some sModel from rfl) rfl ((congrFun (xup_s _ _ _) _).trans ((zS_o _ _ _ _ _ _ _ _ (by decide)).trans (h5))) d_Model_next_235 ?_
    refine X_icmp_ge (tgt := 309) d_Model_next_238 (by decide) (fun _ => ?_) (fun c_1 => absurd c_1 (not_not_intro (nI_le (by omega) (by omega))))
    have hE : rRun bDigit (I 63) n 0 (q + i) = q + i := zRn_e (by decide) _ (by omega)
    refine X_aload_n d_Model_next_309 rfl rfl ?_
    refine X_iload_n d_Model_next_310 rfl rfl ?_
    refine X_iconst (v := 4) d_Model_next_311 rfl ?_
    refine X_icmp_le (tgt := 319) d_Model_next_312 (by decide) (fun c_2 => ?_) (fun c_2 => ?_)
    ·
      refine X_iconst (v := 1) d_Model_next_319 rfl ?_
      refine X_putI fp_Model_86 (show (xup xYf 72 (some (sInts 200))) 59 = some sModel from rfl) rfl d_Model_next_320 ?_
      rw [xw_rec]
      rw [zSs_20]
      refine X_goto (tgt := 403) d_Model_next_323 (by decide) ?_
      rw [hE, Nat.add_sub_cancel_left, if_neg (Int32.not_lt.mpr c_2)]
      exact X_vret rfl rfl (xle_rf _) d_Model_next_403
    ·
      refine X_iconst (v := -1) d_Model_next_315 rfl ?_
      refine X_goto (tgt := 320) d_Model_next_316 (by decide) ?_
      refine X_putI fp_Model_86 (show (xup xYf 72 (some (sInts 200))) 59 = some sModel from rfl) rfl d_Model_next_320 ?_
      rw [xw_rec]
      rw [zSs_20]
      refine X_goto (tgt := 403) d_Model_next_323 (by decide) ?_
      rw [hE, Nat.add_sub_cancel_left, if_pos (Int32.not_le.mp c_2)]
      exact X_vret rfl rfl (xle_rf _) d_Model_next_403
  | succ f ih =>
    intro i hp hpf
    unfold Qn
    refine X_aload_n d_Model_next_230 rfl rfl ?_
    refine X_getI (v := nI (q + i)) fg_Model_80 (show (xup xYf 72 (some (sInts 200))) 59 = some sModel from rfl) rfl ((congrFun (xup_s _ _ _) _).trans (zS_18 _ _ _ _ _ _ _ _)) d_Model_next_231 ?_
    refine X_aload_n d_Model_next_234 rfl rfl ?_
    refine X_getI (v := nI n) fg_Model_55 (show (xup xYf 72 (some (sInts 200))) 59 = some sModel from rfl) rfl ((congrFun (xup_s _ _ _) _).trans ((zS_o _ _ _ _ _ _ _ _ (by decide)).trans (h5))) d_Model_next_235 ?_
    refine X_icmp_ge (tgt := 309) d_Model_next_238 (by decide) (fun c_1 => ?_) (fun c_1 => ?_)
    ·
      have hE : rRun bDigit (I 63) n (f + 1) (q + i) = q + i := zRn_e (by decide) _ (fun z => absurd (nI_lt z (by omega)) (Int32.not_lt.mpr c_1))
      refine X_aload_n d_Model_next_309 rfl rfl ?_
      refine X_iload_n d_Model_next_310 rfl rfl ?_
      refine X_iconst (v := 4) d_Model_next_311 rfl ?_
      refine X_icmp_le (tgt := 319) d_Model_next_312 (by decide) (fun c_2 => ?_) (fun c_2 => ?_)
      ·
        refine X_iconst (v := 1) d_Model_next_319 rfl ?_
        refine X_putI fp_Model_86 (show (xup xYf 72 (some (sInts 200))) 59 = some sModel from rfl) rfl d_Model_next_320 ?_
        rw [xw_rec]
        rw [zSs_20]
        refine X_goto (tgt := 403) d_Model_next_323 (by decide) ?_
        rw [hE, Nat.add_sub_cancel_left, if_neg (Int32.not_lt.mpr c_2)]
        exact X_vret rfl rfl (xle_rf _) d_Model_next_403
      ·
        refine X_iconst (v := -1) d_Model_next_315 rfl ?_
        refine X_goto (tgt := 320) d_Model_next_316 (by decide) ?_
        refine X_putI fp_Model_86 (show (xup xYf 72 (some (sInts 200))) 59 = some sModel from rfl) rfl d_Model_next_320 ?_
        rw [xw_rec]
        rw [zSs_20]
        refine X_goto (tgt := 403) d_Model_next_323 (by decide) ?_
        rw [hE, Nat.add_sub_cancel_left, if_pos (Int32.not_le.mp c_2)]
        exact X_vret rfl rfl (xle_rf _) d_Model_next_403
    ·
      have hpn : q + i < n := Nat.lt_of_not_le (fun z => c_1 (nI_le z (by omega)))
      refine X_aload_n d_Model_next_241 rfl rfl ?_
      refine X_getR (r := 63) fg_Model_19 (show (xup xYf 72 (some (sInts 200))) 59 = some sModel from rfl) rfl d_Model_next_242 ?_
      refine X_aload_n d_Model_next_245 rfl rfl ?_
      refine X_getI (v := nI (q + i)) fg_Model_80 (show (xup xYf 72 (some (sInts 200))) 59 = some sModel from rfl) rfl ((congrFun (xup_s _ _ _) _).trans (zS_18 _ _ _ _ _ _ _ _)) d_Model_next_246 ?_
      refine X_aldI (v := I 63 (q + i)) (show (xup xYf 72 (some (sInts 200))) 63 = some (sInts 160) from rfl) (ixin (show nI (q + i) = nI (q + i) from rfl) (show q + i < 160 by omega) (by decide)) ((ixv (show nI (q + i) = nI (q + i) from rfl) (show q + i < 2 ^ 31 by omega) ((congrFun (xup_n _ _ (by decide)) _).trans ((congrFun (xup_n _ _ (by decide)) _).trans (congrFun (xup_n _ _ (by decide)) _))))) d_Model_next_249 ?_
      refine X_bipush (v := 48) d_Model_next_250 rfl ?_
      refine X_bipush (v := 57) d_Model_next_252 rfl ?_
      refine X_callS (v := .int (xb (xin (I 63 (q + i)) 48 57))) (rest := []) (c_Model_in l G nn _ (by omega) (I 63 (q + i)) 48 57) lk_Model_in ml_Model_66 rfl (Nat.le_of_ble_eq_true rfl) (xRok (d' := d - 1) (by omega) (by decide)) ⟨Nat.le_refl _, Nat.le_refl _⟩ d_Model_next_254 rfl ?_
      refine X_ifb_eq (tgt := 309) d_Model_next_257 (by decide) (fun c_3 => ?_) (fun c_3 => ?_)
      ·
        have hE : rRun bDigit (I 63) n (f + 1) (q + i) = q + i := zRn_x hpn c_3
        refine X_aload_n d_Model_next_309 rfl rfl ?_
        refine X_iload_n d_Model_next_310 rfl rfl ?_
        refine X_iconst (v := 4) d_Model_next_311 rfl ?_
        refine X_icmp_le (tgt := 319) d_Model_next_312 (by decide) (fun c_4 => ?_) (fun c_4 => ?_)
        ·
          refine X_iconst (v := 1) d_Model_next_319 rfl ?_
          refine X_putI fp_Model_86 (show (xup xYf 72 (some (sInts 200))) 59 = some sModel from rfl) rfl d_Model_next_320 ?_
          rw [xw_rec]
          rw [zSs_20]
          refine X_goto (tgt := 403) d_Model_next_323 (by decide) ?_
          rw [hE, Nat.add_sub_cancel_left, if_neg (Int32.not_lt.mpr c_4)]
          exact X_vret rfl rfl (xle_rf _) d_Model_next_403
        ·
          refine X_iconst (v := -1) d_Model_next_315 rfl ?_
          refine X_goto (tgt := 320) d_Model_next_316 (by decide) ?_
          refine X_putI fp_Model_86 (show (xup xYf 72 (some (sInts 200))) 59 = some sModel from rfl) rfl d_Model_next_320 ?_
          rw [xw_rec]
          rw [zSs_20]
          refine X_goto (tgt := 403) d_Model_next_323 (by decide) ?_
          rw [hE, Nat.add_sub_cancel_left, if_pos (Int32.not_le.mp c_4)]
          exact X_vret rfl rfl (xle_rf _) d_Model_next_403
      ·
        refine X_aload_n d_Model_next_260 rfl rfl ?_
        refine X_iload_n d_Model_next_261 rfl rfl ?_
        refine X_iconst (v := 4) d_Model_next_262 rfl ?_
        refine X_icmp_ge (tgt := 289) d_Model_next_263 (by decide) (fun c_5 => ?_) (fun c_5 => ?_)
        ·
          refine X_iconst (v := 0) d_Model_next_289 rfl ?_
          refine X_putI fp_Model_89 (show (xup xYf 72 (some (sInts 200))) 59 = some sModel from rfl) rfl d_Model_next_290 ?_
          rw [xw_rec]
          rw [zSs_21]
          refine X_iinc d_Model_next_293 rfl (v := (nI i) + 1) rfl (by decide) [1, 2, 0] (L' := [(0, .ref (xg G 59)), (1, .int ch), (2, .int ((nI i) + 1))]) rfl ?_
          refine X_aload_n d_Model_next_296 rfl rfl ?_
          refine X_dup d_Model_next_297 rfl ?_
          refine X_getI (v := nI (q + i)) fg_Model_80 (show (xup xYf 72 (some (sInts 200))) 59 = some sModel from rfl) rfl ((congrFun (xup_s _ _ _) _).trans (zS_18 _ _ _ _ _ _ _ _)) d_Model_next_298 ?_
          refine X_iconst (v := 1) d_Model_next_301 rfl ?_
          refine X_iadd d_Model_next_302 ?_
          refine X_putI fp_Model_80 (show (xup xYf 72 (some (sInts 200))) 59 = some sModel from rfl) rfl d_Model_next_303 ?_
          rw [xw_rec]
          rw [zSs_18]
          refine X_goto (tgt := 230) d_Model_next_306 (by decide) ?_
          rw [zRn_y hpn (show bDigit (I 63 (q + i)) = true from c_3)]
          have key := ih (i + 1) (by omega) (by omega)
          unfold Qn at key
          rw [zDv_n (show ¬ i < 4 from fun z => absurd (nI_lt (b := 4) z (by decide)) (Int32.not_lt.mpr c_5))] at key
          rw [nI_1, nI_1]
          exact key
        ·
          refine X_bipush (v := 10) d_Model_next_266 rfl ?_
          refine X_aload_n d_Model_next_268 rfl rfl ?_
          refine X_getI (v := zDv (I 63) q i) fg_Model_89 (show (xup xYf 72 (some (sInts 200))) 59 = some sModel from rfl) rfl ((congrFun (xup_s _ _ _) _).trans (zS_21 _ _ _ _ _ _ _ _)) d_Model_next_269 ?_
          refine X_imul d_Model_next_272 ?_
          refine X_aload_n d_Model_next_273 rfl rfl ?_
          refine X_getR (r := 63) fg_Model_19 (show (xup xYf 72 (some (sInts 200))) 59 = some sModel from rfl) rfl d_Model_next_274 ?_
          refine X_aload_n d_Model_next_277 rfl rfl ?_
          refine X_getI (v := nI (q + i)) fg_Model_80 (show (xup xYf 72 (some (sInts 200))) 59 = some sModel from rfl) rfl ((congrFun (xup_s _ _ _) _).trans (zS_18 _ _ _ _ _ _ _ _)) d_Model_next_278 ?_
          refine X_aldI (v := I 63 (q + i)) (show (xup xYf 72 (some (sInts 200))) 63 = some (sInts 160) from rfl) (ixin (show nI (q + i) = nI (q + i) from rfl) (show q + i < 160 by omega) (by decide)) ((ixv (show nI (q + i) = nI (q + i) from rfl) (show q + i < 2 ^ 31 by omega) ((congrFun (xup_n _ _ (by decide)) _).trans ((congrFun (xup_n _ _ (by decide)) _).trans (congrFun (xup_n _ _ (by decide)) _))))) d_Model_next_281 ?_
          refine X_iadd d_Model_next_282 ?_
          refine X_bipush (v := 48) d_Model_next_283 rfl ?_
          refine X_isub d_Model_next_285 ?_
          refine X_goto (tgt := 290) d_Model_next_286 (by decide) ?_
          refine X_putI fp_Model_89 (show (xup xYf 72 (some (sInts 200))) 59 = some sModel from rfl) rfl d_Model_next_290 ?_
          rw [xw_rec]
          rw [zSs_21]
          refine X_iinc d_Model_next_293 rfl (v := (nI i) + 1) rfl (by decide) [1, 2, 0] (L' := [(0, .ref (xg G 59)), (1, .int ch), (2, .int ((nI i) + 1))]) rfl ?_
          refine X_aload_n d_Model_next_296 rfl rfl ?_
          refine X_dup d_Model_next_297 rfl ?_
          refine X_getI (v := nI (q + i)) fg_Model_80 (show (xup xYf 72 (some (sInts 200))) 59 = some sModel from rfl) rfl ((congrFun (xup_s _ _ _) _).trans (zS_18 _ _ _ _ _ _ _ _)) d_Model_next_298 ?_
          refine X_iconst (v := 1) d_Model_next_301 rfl ?_
          refine X_iadd d_Model_next_302 ?_
          refine X_putI fp_Model_80 (show (xup xYf 72 (some (sInts 200))) 59 = some sModel from rfl) rfl d_Model_next_303 ?_
          rw [xw_rec]
          rw [zSs_18]
          refine X_goto (tgt := 230) d_Model_next_306 (by decide) ?_
          rw [zRn_y hpn (show bDigit (I 63 (q + i)) = true from c_3)]
          have key := ih (i + 1) (by omega) (by omega)
          unfold Qn at key
          rw [zDv_y (show i < 4 from Nat.lt_of_not_le (fun z => c_5 (nI_le (a := 4) z (by omega))))] at key
          rw [nI_1, nI_1]
          exact key
theorem n52 (l : Launch) (G : xG) {d : Nat} (nn : Nat) (hd : 3 ≤ d) (I : xI) (n : Nat) (h5 : I 59 5 = nI n) (hn : n ≤ 160) (C H : Nat → Int32) (b t v hm op ou : Int32) (hB : ∀ j, j < n → ¬ I 63 j < 0) (q : Nat) (hq : q ≤ n) : Qn l G d nn I C H (zS (I 59) (nI (vNx (I 63) n q)) (nI q) (zTk (I 71) (I 63) n q) (zVa (I 71) (I 63) n q) hm op ou) (zS (I 59) (nI q) b t v hm op ou) 52 [(0, .ref (xg G 59))] := by
  unfold Qn
  refine X_aload_n d_Model_next_52 rfl rfl ?_
  refine X_aload_n d_Model_next_53 rfl rfl ?_
  refine X_getI (v := nI q) fg_Model_80 (show (xup xYf 72 (some (sInts 200))) 59 = some sModel from rfl) rfl ((congrFun (xup_s _ _ _) _).trans (zS_18 _ _ _ _ _ _ _ _)) d_Model_next_54 ?_
  refine X_putI fp_Model_83 (show (xup xYf 72 (some (sInts 200))) 59 = some sModel from rfl) rfl d_Model_next_57 ?_
  rw [xw_rec]
  rw [zSs_19]
  refine X_aload_n d_Model_next_60 rfl rfl ?_
  refine X_iconst (v := 0) d_Model_next_61 rfl ?_
  refine X_putI fp_Model_86 (show (xup xYf 72 (some (sInts 200))) 59 = some sModel from rfl) rfl d_Model_next_62 ?_
  rw [xw_rec]
  rw [zSs_20]
  refine X_aload_n d_Model_next_65 rfl rfl ?_
  refine X_iconst (v := 0) d_Model_next_66 rfl ?_
  refine X_putI fp_Model_89 (show (xup xYf 72 (some (sInts 200))) 59 = some sModel from rfl) rfl d_Model_next_67 ?_
  rw [xw_rec]
  rw [zSs_21]
  refine X_aload_n d_Model_next_70 rfl rfl ?_
  refine X_getI (v := nI q) fg_Model_80 (show (xup xYf 72 (some (sInts 200))) 59 = some sModel from rfl) rfl ((congrFun (xup_s _ _ _) _).trans (zS_18 _ _ _ _ _ _ _ _)) d_Model_next_71 ?_
  refine X_aload_n d_Model_next_74 rfl rfl ?_
  refine X_getI (v := nI n) fg_Model_55 (show (xup xYf 72 (some (sInts 200))) 59 = some sModel from rfl) rfl ((congrFun (xup_s _ _ _) _).trans ((zS_o _ _ _ _ _ _ _ _ (by decide)).trans (h5))) d_Model_next_75 ?_
  refine X_icmp_ne (tgt := 82) d_Model_next_78 (by decide) (fun c_1 => ?_) (fun c_1 => ?_)
  ·
    have hqn : q < n := by have h9 : ¬ q = n := fun z => c_1 (by rw [z]); omega
    have hnq : ¬ n ≤ q := by omega
    have hb0 : ¬ rB (I 63) n q < 0 := by rw [rB, if_pos hqn]; exact hB q hqn
    have hbq : rB (I 63) n q = I 63 q := if_pos hqn
    refine X_aload_n d_Model_next_82 rfl rfl ?_
    refine X_getR (r := 63) fg_Model_19 (show (xup xYf 72 (some (sInts 200))) 59 = some sModel from rfl) rfl d_Model_next_83 ?_
    refine X_aload_n d_Model_next_86 rfl rfl ?_
    refine X_getI (v := nI q) fg_Model_80 (show (xup xYf 72 (some (sInts 200))) 59 = some sModel from rfl) rfl ((congrFun (xup_s _ _ _) _).trans (zS_18 _ _ _ _ _ _ _ _)) d_Model_next_87 ?_
    refine X_aldI (v := I 63 q) (show (xup xYf 72 (some (sInts 200))) 63 = some (sInts 160) from rfl) (ixin (show nI q = nI q from rfl) (show q < 160 by omega) (by decide)) ((ixv (show nI q = nI q from rfl) (show q < 2 ^ 31 by omega) ((congrFun (xup_n _ _ (by decide)) _).trans ((congrFun (xup_n _ _ (by decide)) _).trans (congrFun (xup_n _ _ (by decide)) _))))) d_Model_next_90 ?_
    refine X_istore_n d_Model_next_91 rfl (by decide) [1, 0] (L' := [(0, .ref (xg G 59)), (1, .int (I 63 q))]) rfl ?_
    refine X_iload_n d_Model_next_92 rfl rfl ?_
    refine X_bipush (v := 97) d_Model_next_93 rfl ?_
    refine X_bipush (v := 122) d_Model_next_95 rfl ?_
    refine X_callS (v := .int (xb (xin (I 63 q) 97 122))) (rest := []) (c_Model_in l G nn _ (by omega) (I 63 q) 97 122) lk_Model_in ml_Model_66 rfl (Nat.le_of_ble_eq_true rfl) (xRok (d' := d - 1) (by omega) (by decide)) ⟨Nat.le_refl _, Nat.le_refl _⟩ d_Model_next_97 rfl ?_
    refine X_ifb_eq (tgt := 217) d_Model_next_100 (by decide) (fun c_2 => ?_) (fun c_2 => ?_)
    ·
      refine X_iload_n d_Model_next_217 rfl rfl ?_
      refine X_bipush (v := 48) d_Model_next_218 rfl ?_
      refine X_bipush (v := 57) d_Model_next_220 rfl ?_
      refine X_callS (v := .int (xb (xin (I 63 q) 48 57))) (rest := []) (c_Model_in l G nn _ (by omega) (I 63 q) 48 57) lk_Model_in ml_Model_66 rfl (Nat.le_of_ble_eq_true rfl) (xRok (d' := d - 1) (by omega) (by decide)) ⟨Nat.le_refl _, Nat.le_refl _⟩ d_Model_next_222 rfl ?_
      refine X_ifb_eq (tgt := 326) d_Model_next_225 (by decide) (fun c_3 => ?_) (fun c_3 => ?_)
      ·
        refine X_iload_n d_Model_next_326 rfl rfl ?_
        refine X_bipush (v := 40) d_Model_next_327 rfl ?_
        refine X_icmp_eq (tgt := 374) d_Model_next_329 (by decide) (fun c_4 => ?_) (fun c_4 => ?_)
        ·
          refine X_iconst (v := 1) d_Model_next_374 rfl ?_
          refine X_goto (tgt := 379) d_Model_next_375 (by decide) ?_
          refine X_istore_n d_Model_next_379 rfl (by decide) [1, 2, 0] (L' := [(0, .ref (xg G 59)), (1, .int (I 63 q)), (2, .int 1)]) rfl ?_
          refine X_aload_n d_Model_next_380 rfl rfl ?_
          refine X_iload_n d_Model_next_381 rfl rfl ?_
          refine X_if_eq (tgt := 389) d_Model_next_382 (by decide) (fun c_5 => absurd c_5 (by decide)) (fun _ => ?_)
          refine X_iload_n d_Model_next_385 rfl rfl ?_
          refine X_goto (tgt := 390) d_Model_next_386 (by decide) ?_
          refine X_putI fp_Model_86 (show (xup xYf 72 (some (sInts 200))) 59 = some sModel from rfl) rfl d_Model_next_390 ?_
          rw [xw_rec]
          rw [zSs_20]
          refine X_aload_n d_Model_next_393 rfl rfl ?_
          refine X_dup d_Model_next_394 rfl ?_
          refine X_getI (v := nI q) fg_Model_80 (show (xup xYf 72 (some (sInts 200))) 59 = some sModel from rfl) rfl ((congrFun (xup_s _ _ _) _).trans (zS_18 _ _ _ _ _ _ _ _)) d_Model_next_395 ?_
          refine X_iconst (v := 1) d_Model_next_398 rfl ?_
          refine X_iadd d_Model_next_399 ?_
          refine X_putI fp_Model_80 (show (xup xYf 72 (some (sInts 200))) 59 = some sModel from rfl) rfl d_Model_next_400 ?_
          rw [xw_rec]
          rw [zSs_18]
          have hl : ¬ bLetter (I 63 q) = true := by rw [show bLetter (I 63 q) = false from c_2]; decide
          have hdg : ¬ bDigit (I 63 q) = true := by rw [show bDigit (I 63 q) = false from c_3]; decide
          have hs : bSign (I 63 q) = true := by simp [bSign, c_4]
          have e1 : vNx (I 63) n q = q + 1 := by rw [vNx, if_neg hb0, hbq, if_neg hl, if_neg hdg]
          have e2 : zTk (I 71) (I 63) n q = (I 63 q) := by rw [zTk, if_neg hnq, if_neg hl, if_neg hdg, if_pos hs]
          have e3 : zVa (I 71) (I 63) n q = 0 := by rw [zVa, if_neg hnq, if_neg hl, if_neg hdg]
          rw [e1, e2, e3, nI_1]
          exact X_vret rfl rfl (xle_rf _) d_Model_next_403
        ·
          refine X_iload_n d_Model_next_332 rfl rfl ?_
          refine X_bipush (v := 41) d_Model_next_333 rfl ?_
          refine X_icmp_eq (tgt := 374) d_Model_next_335 (by decide) (fun c_6 => ?_) (fun c_6 => ?_)
          ·
            refine X_iconst (v := 1) d_Model_next_374 rfl ?_
            refine X_goto (tgt := 379) d_Model_next_375 (by decide) ?_
            refine X_istore_n d_Model_next_379 rfl (by decide) [1, 2, 0] (L' := [(0, .ref (xg G 59)), (1, .int (I 63 q)), (2, .int 1)]) rfl ?_
            refine X_aload_n d_Model_next_380 rfl rfl ?_
            refine X_iload_n d_Model_next_381 rfl rfl ?_
            refine X_if_eq (tgt := 389) d_Model_next_382 (by decide) (fun c_7 => absurd c_7 (by decide)) (fun _ => ?_)
            refine X_iload_n d_Model_next_385 rfl rfl ?_
            refine X_goto (tgt := 390) d_Model_next_386 (by decide) ?_
            refine X_putI fp_Model_86 (show (xup xYf 72 (some (sInts 200))) 59 = some sModel from rfl) rfl d_Model_next_390 ?_
            rw [xw_rec]
            rw [zSs_20]
            refine X_aload_n d_Model_next_393 rfl rfl ?_
            refine X_dup d_Model_next_394 rfl ?_
            refine X_getI (v := nI q) fg_Model_80 (show (xup xYf 72 (some (sInts 200))) 59 = some sModel from rfl) rfl ((congrFun (xup_s _ _ _) _).trans (zS_18 _ _ _ _ _ _ _ _)) d_Model_next_395 ?_
            refine X_iconst (v := 1) d_Model_next_398 rfl ?_
            refine X_iadd d_Model_next_399 ?_
            refine X_putI fp_Model_80 (show (xup xYf 72 (some (sInts 200))) 59 = some sModel from rfl) rfl d_Model_next_400 ?_
            rw [xw_rec]
            rw [zSs_18]
            have hl : ¬ bLetter (I 63 q) = true := by rw [show bLetter (I 63 q) = false from c_2]; decide
            have hdg : ¬ bDigit (I 63 q) = true := by rw [show bDigit (I 63 q) = false from c_3]; decide
            have hs : bSign (I 63 q) = true := by simp [bSign, c_4, c_6]
            have e1 : vNx (I 63) n q = q + 1 := by rw [vNx, if_neg hb0, hbq, if_neg hl, if_neg hdg]
            have e2 : zTk (I 71) (I 63) n q = (I 63 q) := by rw [zTk, if_neg hnq, if_neg hl, if_neg hdg, if_pos hs]
            have e3 : zVa (I 71) (I 63) n q = 0 := by rw [zVa, if_neg hnq, if_neg hl, if_neg hdg]
            rw [e1, e2, e3, nI_1]
            exact X_vret rfl rfl (xle_rf _) d_Model_next_403
          ·
            refine X_iload_n d_Model_next_338 rfl rfl ?_
            refine X_bipush (v := 59) d_Model_next_339 rfl ?_
            refine X_icmp_eq (tgt := 374) d_Model_next_341 (by decide) (fun c_8 => ?_) (fun c_8 => ?_)
            ·
              refine X_iconst (v := 1) d_Model_next_374 rfl ?_
              refine X_goto (tgt := 379) d_Model_next_375 (by decide) ?_
              refine X_istore_n d_Model_next_379 rfl (by decide) [1, 2, 0] (L' := [(0, .ref (xg G 59)), (1, .int (I 63 q)), (2, .int 1)]) rfl ?_
              refine X_aload_n d_Model_next_380 rfl rfl ?_
              refine X_iload_n d_Model_next_381 rfl rfl ?_
              refine X_if_eq (tgt := 389) d_Model_next_382 (by decide) (fun c_9 => absurd c_9 (by decide)) (fun _ => ?_)
              refine X_iload_n d_Model_next_385 rfl rfl ?_
              refine X_goto (tgt := 390) d_Model_next_386 (by decide) ?_
              refine X_putI fp_Model_86 (show (xup xYf 72 (some (sInts 200))) 59 = some sModel from rfl) rfl d_Model_next_390 ?_
              rw [xw_rec]
              rw [zSs_20]
              refine X_aload_n d_Model_next_393 rfl rfl ?_
              refine X_dup d_Model_next_394 rfl ?_
              refine X_getI (v := nI q) fg_Model_80 (show (xup xYf 72 (some (sInts 200))) 59 = some sModel from rfl) rfl ((congrFun (xup_s _ _ _) _).trans (zS_18 _ _ _ _ _ _ _ _)) d_Model_next_395 ?_
              refine X_iconst (v := 1) d_Model_next_398 rfl ?_
              refine X_iadd d_Model_next_399 ?_
              refine X_putI fp_Model_80 (show (xup xYf 72 (some (sInts 200))) 59 = some sModel from rfl) rfl d_Model_next_400 ?_
              rw [xw_rec]
              rw [zSs_18]
              have hl : ¬ bLetter (I 63 q) = true := by rw [show bLetter (I 63 q) = false from c_2]; decide
              have hdg : ¬ bDigit (I 63 q) = true := by rw [show bDigit (I 63 q) = false from c_3]; decide
              have hs : bSign (I 63 q) = true := by simp [bSign, c_4, c_6, c_8]
              have e1 : vNx (I 63) n q = q + 1 := by rw [vNx, if_neg hb0, hbq, if_neg hl, if_neg hdg]
              have e2 : zTk (I 71) (I 63) n q = (I 63 q) := by rw [zTk, if_neg hnq, if_neg hl, if_neg hdg, if_pos hs]
              have e3 : zVa (I 71) (I 63) n q = 0 := by rw [zVa, if_neg hnq, if_neg hl, if_neg hdg]
              rw [e1, e2, e3, nI_1]
              exact X_vret rfl rfl (xle_rf _) d_Model_next_403
            ·
              refine X_iload_n d_Model_next_344 rfl rfl ?_
              refine X_bipush (v := 43) d_Model_next_345 rfl ?_
              refine X_icmp_eq (tgt := 374) d_Model_next_347 (by decide) (fun c_10 => ?_) (fun c_10 => ?_)
              ·
                refine X_iconst (v := 1) d_Model_next_374 rfl ?_
                refine X_goto (tgt := 379) d_Model_next_375 (by decide) ?_
                refine X_istore_n d_Model_next_379 rfl (by decide) [1, 2, 0] (L' := [(0, .ref (xg G 59)), (1, .int (I 63 q)), (2, .int 1)]) rfl ?_
                refine X_aload_n d_Model_next_380 rfl rfl ?_
                refine X_iload_n d_Model_next_381 rfl rfl ?_
                refine X_if_eq (tgt := 389) d_Model_next_382 (by decide) (fun c_11 => absurd c_11 (by decide)) (fun _ => ?_)
                refine X_iload_n d_Model_next_385 rfl rfl ?_
                refine X_goto (tgt := 390) d_Model_next_386 (by decide) ?_
                refine X_putI fp_Model_86 (show (xup xYf 72 (some (sInts 200))) 59 = some sModel from rfl) rfl d_Model_next_390 ?_
                rw [xw_rec]
                rw [zSs_20]
                refine X_aload_n d_Model_next_393 rfl rfl ?_
                refine X_dup d_Model_next_394 rfl ?_
                refine X_getI (v := nI q) fg_Model_80 (show (xup xYf 72 (some (sInts 200))) 59 = some sModel from rfl) rfl ((congrFun (xup_s _ _ _) _).trans (zS_18 _ _ _ _ _ _ _ _)) d_Model_next_395 ?_
                refine X_iconst (v := 1) d_Model_next_398 rfl ?_
                refine X_iadd d_Model_next_399 ?_
                refine X_putI fp_Model_80 (show (xup xYf 72 (some (sInts 200))) 59 = some sModel from rfl) rfl d_Model_next_400 ?_
                rw [xw_rec]
                rw [zSs_18]
                have hl : ¬ bLetter (I 63 q) = true := by rw [show bLetter (I 63 q) = false from c_2]; decide
                have hdg : ¬ bDigit (I 63 q) = true := by rw [show bDigit (I 63 q) = false from c_3]; decide
                have hs : bSign (I 63 q) = true := by simp [bSign, c_4, c_6, c_8, c_10]
                have e1 : vNx (I 63) n q = q + 1 := by rw [vNx, if_neg hb0, hbq, if_neg hl, if_neg hdg]
                have e2 : zTk (I 71) (I 63) n q = (I 63 q) := by rw [zTk, if_neg hnq, if_neg hl, if_neg hdg, if_pos hs]
                have e3 : zVa (I 71) (I 63) n q = 0 := by rw [zVa, if_neg hnq, if_neg hl, if_neg hdg]
                rw [e1, e2, e3, nI_1]
                exact X_vret rfl rfl (xle_rf _) d_Model_next_403
              ·
                refine X_iload_n d_Model_next_350 rfl rfl ?_
                refine X_bipush (v := 45) d_Model_next_351 rfl ?_
                refine X_icmp_eq (tgt := 374) d_Model_next_353 (by decide) (fun c_12 => ?_) (fun c_12 => ?_)
                ·
                  refine X_iconst (v := 1) d_Model_next_374 rfl ?_
                  refine X_goto (tgt := 379) d_Model_next_375 (by decide) ?_
                  refine X_istore_n d_Model_next_379 rfl (by decide) [1, 2, 0] (L' := [(0, .ref (xg G 59)), (1, .int (I 63 q)), (2, .int 1)]) rfl ?_
                  refine X_aload_n d_Model_next_380 rfl rfl ?_
                  refine X_iload_n d_Model_next_381 rfl rfl ?_
                  refine X_if_eq (tgt := 389) d_Model_next_382 (by decide) (fun c_13 => absurd c_13 (by decide)) (fun _ => ?_)
                  refine X_iload_n d_Model_next_385 rfl rfl ?_
                  refine X_goto (tgt := 390) d_Model_next_386 (by decide) ?_
                  refine X_putI fp_Model_86 (show (xup xYf 72 (some (sInts 200))) 59 = some sModel from rfl) rfl d_Model_next_390 ?_
                  rw [xw_rec]
                  rw [zSs_20]
                  refine X_aload_n d_Model_next_393 rfl rfl ?_
                  refine X_dup d_Model_next_394 rfl ?_
                  refine X_getI (v := nI q) fg_Model_80 (show (xup xYf 72 (some (sInts 200))) 59 = some sModel from rfl) rfl ((congrFun (xup_s _ _ _) _).trans (zS_18 _ _ _ _ _ _ _ _)) d_Model_next_395 ?_
                  refine X_iconst (v := 1) d_Model_next_398 rfl ?_
                  refine X_iadd d_Model_next_399 ?_
                  refine X_putI fp_Model_80 (show (xup xYf 72 (some (sInts 200))) 59 = some sModel from rfl) rfl d_Model_next_400 ?_
                  rw [xw_rec]
                  rw [zSs_18]
                  have hl : ¬ bLetter (I 63 q) = true := by rw [show bLetter (I 63 q) = false from c_2]; decide
                  have hdg : ¬ bDigit (I 63 q) = true := by rw [show bDigit (I 63 q) = false from c_3]; decide
                  have hs : bSign (I 63 q) = true := by simp [bSign, c_4, c_6, c_8, c_10, c_12]
                  have e1 : vNx (I 63) n q = q + 1 := by rw [vNx, if_neg hb0, hbq, if_neg hl, if_neg hdg]
                  have e2 : zTk (I 71) (I 63) n q = (I 63 q) := by rw [zTk, if_neg hnq, if_neg hl, if_neg hdg, if_pos hs]
                  have e3 : zVa (I 71) (I 63) n q = 0 := by rw [zVa, if_neg hnq, if_neg hl, if_neg hdg]
                  rw [e1, e2, e3, nI_1]
                  exact X_vret rfl rfl (xle_rf _) d_Model_next_403
                ·
                  refine X_iload_n d_Model_next_356 rfl rfl ?_
                  refine X_bipush (v := 42) d_Model_next_357 rfl ?_
                  refine X_icmp_eq (tgt := 374) d_Model_next_359 (by decide) (fun c_14 => ?_) (fun c_14 => ?_)
                  ·
                    refine X_iconst (v := 1) d_Model_next_374 rfl ?_
                    refine X_goto (tgt := 379) d_Model_next_375 (by decide) ?_
                    refine X_istore_n d_Model_next_379 rfl (by decide) [1, 2, 0] (L' := [(0, .ref (xg G 59)), (1, .int (I 63 q)), (2, .int 1)]) rfl ?_
                    refine X_aload_n d_Model_next_380 rfl rfl ?_
                    refine X_iload_n d_Model_next_381 rfl rfl ?_
                    refine X_if_eq (tgt := 389) d_Model_next_382 (by decide) (fun c_15 => absurd c_15 (by decide)) (fun _ => ?_)
                    refine X_iload_n d_Model_next_385 rfl rfl ?_
                    refine X_goto (tgt := 390) d_Model_next_386 (by decide) ?_
                    refine X_putI fp_Model_86 (show (xup xYf 72 (some (sInts 200))) 59 = some sModel from rfl) rfl d_Model_next_390 ?_
                    rw [xw_rec]
                    rw [zSs_20]
                    refine X_aload_n d_Model_next_393 rfl rfl ?_
                    refine X_dup d_Model_next_394 rfl ?_
                    refine X_getI (v := nI q) fg_Model_80 (show (xup xYf 72 (some (sInts 200))) 59 = some sModel from rfl) rfl ((congrFun (xup_s _ _ _) _).trans (zS_18 _ _ _ _ _ _ _ _)) d_Model_next_395 ?_
                    refine X_iconst (v := 1) d_Model_next_398 rfl ?_
                    refine X_iadd d_Model_next_399 ?_
                    refine X_putI fp_Model_80 (show (xup xYf 72 (some (sInts 200))) 59 = some sModel from rfl) rfl d_Model_next_400 ?_
                    rw [xw_rec]
                    rw [zSs_18]
                    have hl : ¬ bLetter (I 63 q) = true := by rw [show bLetter (I 63 q) = false from c_2]; decide
                    have hdg : ¬ bDigit (I 63 q) = true := by rw [show bDigit (I 63 q) = false from c_3]; decide
                    have hs : bSign (I 63 q) = true := by simp [bSign, c_4, c_6, c_8, c_10, c_12, c_14]
                    have e1 : vNx (I 63) n q = q + 1 := by rw [vNx, if_neg hb0, hbq, if_neg hl, if_neg hdg]
                    have e2 : zTk (I 71) (I 63) n q = (I 63 q) := by rw [zTk, if_neg hnq, if_neg hl, if_neg hdg, if_pos hs]
                    have e3 : zVa (I 71) (I 63) n q = 0 := by rw [zVa, if_neg hnq, if_neg hl, if_neg hdg]
                    rw [e1, e2, e3, nI_1]
                    exact X_vret rfl rfl (xle_rf _) d_Model_next_403
                  ·
                    refine X_iload_n d_Model_next_362 rfl rfl ?_
                    refine X_bipush (v := 60) d_Model_next_363 rfl ?_
                    refine X_icmp_eq (tgt := 374) d_Model_next_365 (by decide) (fun c_16 => ?_) (fun c_16 => ?_)
                    ·
                      refine X_iconst (v := 1) d_Model_next_374 rfl ?_
                      refine X_goto (tgt := 379) d_Model_next_375 (by decide) ?_
                      refine X_istore_n d_Model_next_379 rfl (by decide) [1, 2, 0] (L' := [(0, .ref (xg G 59)), (1, .int (I 63 q)), (2, .int 1)]) rfl ?_
                      refine X_aload_n d_Model_next_380 rfl rfl ?_
                      refine X_iload_n d_Model_next_381 rfl rfl ?_
                      refine X_if_eq (tgt := 389) d_Model_next_382 (by decide) (fun c_17 => absurd c_17 (by decide)) (fun _ => ?_)
                      refine X_iload_n d_Model_next_385 rfl rfl ?_
                      refine X_goto (tgt := 390) d_Model_next_386 (by decide) ?_
                      refine X_putI fp_Model_86 (show (xup xYf 72 (some (sInts 200))) 59 = some sModel from rfl) rfl d_Model_next_390 ?_
                      rw [xw_rec]
                      rw [zSs_20]
                      refine X_aload_n d_Model_next_393 rfl rfl ?_
                      refine X_dup d_Model_next_394 rfl ?_
                      refine X_getI (v := nI q) fg_Model_80 (show (xup xYf 72 (some (sInts 200))) 59 = some sModel from rfl) rfl ((congrFun (xup_s _ _ _) _).trans (zS_18 _ _ _ _ _ _ _ _)) d_Model_next_395 ?_
                      refine X_iconst (v := 1) d_Model_next_398 rfl ?_
                      refine X_iadd d_Model_next_399 ?_
                      refine X_putI fp_Model_80 (show (xup xYf 72 (some (sInts 200))) 59 = some sModel from rfl) rfl d_Model_next_400 ?_
                      rw [xw_rec]
                      rw [zSs_18]
                      have hl : ¬ bLetter (I 63 q) = true := by rw [show bLetter (I 63 q) = false from c_2]; decide
                      have hdg : ¬ bDigit (I 63 q) = true := by rw [show bDigit (I 63 q) = false from c_3]; decide
                      have hs : bSign (I 63 q) = true := by simp [bSign, c_4, c_6, c_8, c_10, c_12, c_14, c_16]
                      have e1 : vNx (I 63) n q = q + 1 := by rw [vNx, if_neg hb0, hbq, if_neg hl, if_neg hdg]
                      have e2 : zTk (I 71) (I 63) n q = (I 63 q) := by rw [zTk, if_neg hnq, if_neg hl, if_neg hdg, if_pos hs]
                      have e3 : zVa (I 71) (I 63) n q = 0 := by rw [zVa, if_neg hnq, if_neg hl, if_neg hdg]
                      rw [e1, e2, e3, nI_1]
                      exact X_vret rfl rfl (xle_rf _) d_Model_next_403
                    ·
                      refine X_iload_n d_Model_next_368 rfl rfl ?_
                      refine X_bipush (v := 61) d_Model_next_369 rfl ?_
                      refine X_icmp_ne (tgt := 378) d_Model_next_371 (by decide) (fun c_18 => ?_) (fun c_18 => ?_)
                      ·
                        refine X_iconst (v := 0) d_Model_next_378 rfl ?_
                        refine X_istore_n d_Model_next_379 rfl (by decide) [1, 2, 0] (L' := [(0, .ref (xg G 59)), (1, .int (I 63 q)), (2, .int 0)]) rfl ?_
                        refine X_aload_n d_Model_next_380 rfl rfl ?_
                        refine X_iload_n d_Model_next_381 rfl rfl ?_
                        refine X_if_eq (tgt := 389) d_Model_next_382 (by decide) (fun _ => ?_) (fun c_19 => absurd c_19 (by decide))
                        refine X_iconst (v := -1) d_Model_next_389 rfl ?_
                        refine X_putI fp_Model_86 (show (xup xYf 72 (some (sInts 200))) 59 = some sModel from rfl) rfl d_Model_next_390 ?_
                        rw [xw_rec]
                        rw [zSs_20]
                        refine X_aload_n d_Model_next_393 rfl rfl ?_
                        refine X_dup d_Model_next_394 rfl ?_
                        refine X_getI (v := nI q) fg_Model_80 (show (xup xYf 72 (some (sInts 200))) 59 = some sModel from rfl) rfl ((congrFun (xup_s _ _ _) _).trans (zS_18 _ _ _ _ _ _ _ _)) d_Model_next_395 ?_
                        refine X_iconst (v := 1) d_Model_next_398 rfl ?_
                        refine X_iadd d_Model_next_399 ?_
                        refine X_putI fp_Model_80 (show (xup xYf 72 (some (sInts 200))) 59 = some sModel from rfl) rfl d_Model_next_400 ?_
                        rw [xw_rec]
                        rw [zSs_18]
                        have hl : ¬ bLetter (I 63 q) = true := by rw [show bLetter (I 63 q) = false from c_2]; decide
                        have hdg : ¬ bDigit (I 63 q) = true := by rw [show bDigit (I 63 q) = false from c_3]; decide
                        have hs : ¬ bSign (I 63 q) = true := by simp [bSign, c_4, c_6, c_8, c_10, c_12, c_14, c_16, c_18]
                        have e1 : vNx (I 63) n q = q + 1 := by rw [vNx, if_neg hb0, hbq, if_neg hl, if_neg hdg]
                        have e2 : zTk (I 71) (I 63) n q = (-1) := by rw [zTk, if_neg hnq, if_neg hl, if_neg hdg, if_neg hs]
                        have e3 : zVa (I 71) (I 63) n q = 0 := by rw [zVa, if_neg hnq, if_neg hl, if_neg hdg]
                        rw [e1, e2, e3, nI_1]
                        exact X_vret rfl rfl (xle_rf _) d_Model_next_403
                      ·
                        refine X_iconst (v := 1) d_Model_next_374 rfl ?_
                        refine X_goto (tgt := 379) d_Model_next_375 (by decide) ?_
                        refine X_istore_n d_Model_next_379 rfl (by decide) [1, 2, 0] (L' := [(0, .ref (xg G 59)), (1, .int (I 63 q)), (2, .int 1)]) rfl ?_
                        refine X_aload_n d_Model_next_380 rfl rfl ?_
                        refine X_iload_n d_Model_next_381 rfl rfl ?_
                        refine X_if_eq (tgt := 389) d_Model_next_382 (by decide) (fun c_20 => absurd c_20 (by decide)) (fun _ => ?_)
                        refine X_iload_n d_Model_next_385 rfl rfl ?_
                        refine X_goto (tgt := 390) d_Model_next_386 (by decide) ?_
                        refine X_putI fp_Model_86 (show (xup xYf 72 (some (sInts 200))) 59 = some sModel from rfl) rfl d_Model_next_390 ?_
                        rw [xw_rec]
                        rw [zSs_20]
                        refine X_aload_n d_Model_next_393 rfl rfl ?_
                        refine X_dup d_Model_next_394 rfl ?_
                        refine X_getI (v := nI q) fg_Model_80 (show (xup xYf 72 (some (sInts 200))) 59 = some sModel from rfl) rfl ((congrFun (xup_s _ _ _) _).trans (zS_18 _ _ _ _ _ _ _ _)) d_Model_next_395 ?_
                        refine X_iconst (v := 1) d_Model_next_398 rfl ?_
                        refine X_iadd d_Model_next_399 ?_
                        refine X_putI fp_Model_80 (show (xup xYf 72 (some (sInts 200))) 59 = some sModel from rfl) rfl d_Model_next_400 ?_
                        rw [xw_rec]
                        rw [zSs_18]
                        have hl : ¬ bLetter (I 63 q) = true := by rw [show bLetter (I 63 q) = false from c_2]; decide
                        have hdg : ¬ bDigit (I 63 q) = true := by rw [show bDigit (I 63 q) = false from c_3]; decide
                        have hs : bSign (I 63 q) = true := by simp [bSign, c_4, c_6, c_8, c_10, c_12, c_14, c_16, c_18]
                        have e1 : vNx (I 63) n q = q + 1 := by rw [vNx, if_neg hb0, hbq, if_neg hl, if_neg hdg]
                        have e2 : zTk (I 71) (I 63) n q = (I 63 q) := by rw [zTk, if_neg hnq, if_neg hl, if_neg hdg, if_pos hs]
                        have e3 : zVa (I 71) (I 63) n q = 0 := by rw [zVa, if_neg hnq, if_neg hl, if_neg hdg]
                        rw [e1, e2, e3, nI_1]
                        exact X_vret rfl rfl (xle_rf _) d_Model_next_403
      ·
        refine X_iconst (v := 0) d_Model_next_228 rfl ?_
        refine X_istore_n d_Model_next_229 rfl (by decide) [1, 2, 0] (L' := [(0, .ref (xg G 59)), (1, .int (I 63 q)), (2, .int 0)]) rfl ?_
        have hl : ¬ bLetter (I 63 q) = true := by rw [show bLetter (I 63 q) = false from c_2]; decide
        have hdg : bDigit (I 63 q) = true := c_3
        have e1 : vNx (I 63) n q = rRun bDigit (I 63) n 160 q := by rw [vNx, if_neg hb0, hbq, if_neg hl, if_pos hdg]
        have e2 : zTk (I 71) (I 63) n q = if 4 < nI (rRun bDigit (I 63) n 160 q - q) then -1 else 1 := by rw [zTk, if_neg hnq, if_neg hl, if_pos hdg]
        have e3 : zVa (I 71) (I 63) n q = zDv (I 63) q (rRun bDigit (I 63) n 160 q - q) := by rw [zVa, if_neg hnq, if_neg hl, if_pos hdg]
        have key := n230 l G nn hd I n h5 hn C H b hm op ou q (I 63 q) 160 0 (by omega) (by omega)
        unfold Qn at key
        rw [e1, e2, e3]
        exact key
    ·
      have hl : bLetter (I 63 q) = true := c_2
      have e1 : vNx (I 63) n q = rRun bLetter (I 63) n 160 q := by rw [vNx, if_neg hb0, hbq, if_pos hl]
      have e2 : zTk (I 71) (I 63) n q = zTw (zWf (I 71) (I 63) q (rRun bLetter (I 63) n 160 q) 12 0) := by rw [zTk, if_neg hnq, if_pos hl]
      have e3 : zVa (I 71) (I 63) n q = zVw (zWf (I 71) (I 63) q (rRun bLetter (I 63) n 160 q) 12 0) := by rw [zVa, if_neg hnq, if_pos hl]
      have hbd := zRn_b (Q := bLetter) (g := I 63) (n := n) (by decide) 160 q hq
      have key := n103 l G nn hd I n h5 hn C H b 0 0 hm op ou (zS (I 59) (nI (vNx (I 63) n q)) (nI q) (zTk (I 71) (I 63) n q) (zVa (I 71) (I 63) n q) hm op ou) q (I 63 q) 160 q hq (by omega) (by rw [e1, e2, e3]; exact n146 l G nn hd I n h5 hn C H b 0 0 hm op ou q _ hbd.1 (by omega) (I 63 q))
      unfold Qn at key
      exact key
  ·
    have hz : q = n := (nI_eq (by omega) (by omega)).mp c_1
    have e1 : vNx (I 63) n q = q := by have hb1 : rB (I 63) n q = -1 := if_neg (by omega); rw [vNx, hb1, if_pos (by decide)]
    have e2 : zTk (I 71) (I 63) n q = 0 := if_pos (by omega)
    have e3 : zVa (I 71) (I 63) n q = 0 := if_pos (by omega)
    rw [e1, e2, e3]
    exact X_vret rfl rfl (xle_rf _) d_Model_next_81
theorem n0 (l : Launch) (G : xG) {d : Nat} (nn : Nat) (hd : 3 ≤ d) (I : xI) (n : Nat) (h5 : I 59 5 = nI n) (hn : n ≤ 160) (C H : Nat → Int32) (b t v hm op ou : Int32) (hB : ∀ j, j < n → ¬ I 63 j < 0) : ∀ (f p : Nat), p ≤ n → n ≤ p + f → Qn l G d nn I C H (zS (I 59) (nI (vNx (I 63) n (rRun bBlank (I 63) n f p))) (nI (rRun bBlank (I 63) n f p)) (zTk (I 71) (I 63) n (rRun bBlank (I 63) n f p)) (zVa (I 71) (I 63) n (rRun bBlank (I 63) n f p)) hm op ou) (zS (I 59) (nI p) b t v hm op ou) 0 [(0, .ref (xg G 59))] := by
  intro f
  induction f with
  | zero =>
    intro p hp hpf
    unfold Qn
    refine X_aload_n d_Model_next_0 rfl rfl ?_
    refine X_getI (v := nI p) fg_Model_80 (show (xup xYf 72 (some (sInts 200))) 59 = some sModel from rfl) rfl ((congrFun (xup_s _ _ _) _).trans (zS_18 _ _ _ _ _ _ _ _)) d_Model_next_1 ?_
    refine X_aload_n d_Model_next_4 rfl rfl ?_
    refine X_getI (v := nI n) fg_Model_55 (show (xup xYf 72 (some (sInts 200))) 59 = some sModel from rfl) rfl ((congrFun (xup_s _ _ _) _).trans ((zS_o _ _ _ _ _ _ _ _ (by decide)).trans (h5))) d_Model_next_5 ?_
    refine X_icmp_ge (tgt := 52) d_Model_next_8 (by decide) (fun _ => ?_) (fun c_1 => absurd c_1 (not_not_intro (nI_le (by omega) (by omega))))
    rw [show rRun bBlank (I 63) n 0 p = p from zRn_e (by decide) _ (by omega)]
    have key := n52 l G nn hd I n h5 hn C H b t v hm op ou hB p hp
    unfold Qn at key
    exact key
  | succ f ih =>
    intro p hp hpf
    unfold Qn
    refine X_aload_n d_Model_next_0 rfl rfl ?_
    refine X_getI (v := nI p) fg_Model_80 (show (xup xYf 72 (some (sInts 200))) 59 = some sModel from rfl) rfl ((congrFun (xup_s _ _ _) _).trans (zS_18 _ _ _ _ _ _ _ _)) d_Model_next_1 ?_
    refine X_aload_n d_Model_next_4 rfl rfl ?_
    refine X_getI (v := nI n) fg_Model_55 (show (xup xYf 72 (some (sInts 200))) 59 = some sModel from rfl) rfl ((congrFun (xup_s _ _ _) _).trans ((zS_o _ _ _ _ _ _ _ _ (by decide)).trans (h5))) d_Model_next_5 ?_
    refine X_icmp_ge (tgt := 52) d_Model_next_8 (by decide) (fun c_1 => ?_) (fun c_1 => ?_)
    ·
      rw [show rRun bBlank (I 63) n (f + 1) p = p from zRn_e (by decide) _ (fun z => absurd (nI_lt z (by omega)) (Int32.not_lt.mpr c_1))]
      have key := n52 l G nn hd I n h5 hn C H b t v hm op ou hB p hp
      unfold Qn at key
      exact key
    ·
      have hpn : p < n := Nat.lt_of_not_le (fun z => c_1 (nI_le z (by omega)))
      refine X_aload_n d_Model_next_11 rfl rfl ?_
      refine X_getR (r := 63) fg_Model_19 (show (xup xYf 72 (some (sInts 200))) 59 = some sModel from rfl) rfl d_Model_next_12 ?_
      refine X_aload_n d_Model_next_15 rfl rfl ?_
      refine X_getI (v := nI p) fg_Model_80 (show (xup xYf 72 (some (sInts 200))) 59 = some sModel from rfl) rfl ((congrFun (xup_s _ _ _) _).trans (zS_18 _ _ _ _ _ _ _ _)) d_Model_next_16 ?_
      refine X_aldI (v := I 63 p) (show (xup xYf 72 (some (sInts 200))) 63 = some (sInts 160) from rfl) (ixin (show nI p = nI p from rfl) (show p < 160 by omega) (by decide)) ((ixv (show nI p = nI p from rfl) (show p < 2 ^ 31 by omega) ((congrFun (xup_n _ _ (by decide)) _).trans ((congrFun (xup_n _ _ (by decide)) _).trans (congrFun (xup_n _ _ (by decide)) _))))) d_Model_next_19 ?_
      refine X_bipush (v := 32) d_Model_next_20 rfl ?_
      refine X_icmp_eq (tgt := 39) d_Model_next_22 (by decide) (fun c_2 => ?_) (fun c_2 => ?_)
      ·
        refine X_aload_n d_Model_next_39 rfl rfl ?_
        refine X_dup d_Model_next_40 rfl ?_
        refine X_getI (v := nI p) fg_Model_80 (show (xup xYf 72 (some (sInts 200))) 59 = some sModel from rfl) rfl ((congrFun (xup_s _ _ _) _).trans (zS_18 _ _ _ _ _ _ _ _)) d_Model_next_41 ?_
        refine X_iconst (v := 1) d_Model_next_44 rfl ?_
        refine X_iadd d_Model_next_45 ?_
        refine X_putI fp_Model_80 (show (xup xYf 72 (some (sInts 200))) 59 = some sModel from rfl) rfl d_Model_next_46 ?_
        rw [xw_rec]
        rw [zSs_18]
        refine X_goto (tgt := 0) d_Model_next_49 (by decide) ?_
        rw [zRn_y hpn (show bBlank (I 63 p) = true by simp [bBlank, c_2])]
        have key := ih (p + 1) (by omega) (by omega)
        unfold Qn at key
        rw [nI_1]
        exact key
      ·
        refine X_aload_n d_Model_next_25 rfl rfl ?_
        refine X_getR (r := 63) fg_Model_19 (show (xup xYf 72 (some (sInts 200))) 59 = some sModel from rfl) rfl d_Model_next_26 ?_
        refine X_aload_n d_Model_next_29 rfl rfl ?_
        refine X_getI (v := nI p) fg_Model_80 (show (xup xYf 72 (some (sInts 200))) 59 = some sModel from rfl) rfl ((congrFun (xup_s _ _ _) _).trans (zS_18 _ _ _ _ _ _ _ _)) d_Model_next_30 ?_
        refine X_aldI (v := I 63 p) (show (xup xYf 72 (some (sInts 200))) 63 = some (sInts 160) from rfl) (ixin (show nI p = nI p from rfl) (show p < 160 by omega) (by decide)) ((ixv (show nI p = nI p from rfl) (show p < 2 ^ 31 by omega) ((congrFun (xup_n _ _ (by decide)) _).trans ((congrFun (xup_n _ _ (by decide)) _).trans (congrFun (xup_n _ _ (by decide)) _))))) d_Model_next_33 ?_
        refine X_bipush (v := 10) d_Model_next_34 rfl ?_
        refine X_icmp_ne (tgt := 52) d_Model_next_36 (by decide) (fun c_3 => ?_) (fun c_3 => ?_)
        ·
          rw [show rRun bBlank (I 63) n (f + 1) p = p from zRn_x hpn (by rw [bBlank, decide_eq_false c_2, decide_eq_false c_3]; rfl)]
          have key := n52 l G nn hd I n h5 hn C H b t v hm op ou hB p hp
          unfold Qn at key
          exact key
        ·
          refine X_aload_n d_Model_next_39 rfl rfl ?_
          refine X_dup d_Model_next_40 rfl ?_
          refine X_getI (v := nI p) fg_Model_80 (show (xup xYf 72 (some (sInts 200))) 59 = some sModel from rfl) rfl ((congrFun (xup_s _ _ _) _).trans (zS_18 _ _ _ _ _ _ _ _)) d_Model_next_41 ?_
          refine X_iconst (v := 1) d_Model_next_44 rfl ?_
          refine X_iadd d_Model_next_45 ?_
          refine X_putI fp_Model_80 (show (xup xYf 72 (some (sInts 200))) 59 = some sModel from rfl) rfl d_Model_next_46 ?_
          rw [xw_rec]
          rw [zSs_18]
          refine X_goto (tgt := 0) d_Model_next_49 (by decide) ?_
          rw [zRn_y hpn (show bBlank (I 63 p) = true by simp [bBlank, c_2, c_3])]
          have key := ih (p + 1) (by omega) (by omega)
          unfold Qn at key
          rw [nI_1]
          exact key
theorem c_Model_next (l : Launch) (G : xG) {d : Nat} (nn : Nat) (hd : 3 ≤ d) (I : xI) (n : Nat) (h5 : I 59 5 = nI n) (hn : n ≤ 160) (C H : Nat → Int32) (b t v hm op ou : Int32) (hB : ∀ j, j < n → ¬ I 63 j < 0) (p : Nat) (hp : p ≤ n) : XM l G d y_Model_next b_Model_next 3 none 0 0 xK0 [.ref (xg G 59)] nn (xm G (xup xYf 72 (some (sInts 200))) (xup (xup (xup I 64 C) 72 H) 59 (zS (I 59) (nI p) b t v hm op ou))) none nn (xm G (xup xYf 72 (some (sInts 200))) (xup (xup (xup I 64 C) 72 H) 59 (zS (I 59) (nI (vNx (I 63) n (rRun bBlank (I 63) n 160 p))) (nI (rRun bBlank (I 63) n 160 p)) (zTk (I 71) (I 63) n (rRun bBlank (I 63) n 160 p)) (zVa (I 71) (I 63) n (rRun bBlank (I 63) n 160 p)) hm op ou))) := by
  have key := n0 l G nn hd I n h5 hn C H b t v hm op ou hB 160 p hp (by omega)
  unfold Qn at key
  refine XM.of (by decide) (Nat.le_of_ble_eq_true rfl) (L := [(0, .ref (xg G 59))]) rfl ?_
  exact key
