-- the reader: f what it is beside, p the next place, pl the token's, tk the token, nu its number, op how many stand open, fa the fault
def rQ (f : Nat → Int32) (nx pl tk nu op fa : Int32) : Nat → Int32 := xup (xup (xup (xup (xup (xup f 3 nx) 4 pl) 5 tk) 6 nu) 7 op) 8 fa
theorem rQ_2 (f : Nat → Int32) (nx pl tk nu op fa : Int32) : rQ f nx pl tk nu op fa 2 = f 2 := by simp [rQ, xup]
theorem rQ_3 (f : Nat → Int32) (nx pl tk nu op fa : Int32) : rQ f nx pl tk nu op fa 3 = nx := by simp [rQ, xup]
theorem rQ_4 (f : Nat → Int32) (nx pl tk nu op fa : Int32) : rQ f nx pl tk nu op fa 4 = pl := by simp [rQ, xup]
theorem rQ_5 (f : Nat → Int32) (nx pl tk nu op fa : Int32) : rQ f nx pl tk nu op fa 5 = tk := by simp [rQ, xup]
theorem rQ_6 (f : Nat → Int32) (nx pl tk nu op fa : Int32) : rQ f nx pl tk nu op fa 6 = nu := by simp [rQ, xup]
theorem rQ_7 (f : Nat → Int32) (nx pl tk nu op fa : Int32) : rQ f nx pl tk nu op fa 7 = op := by simp [rQ, xup]
theorem rQ_8 (f : Nat → Int32) (nx pl tk nu op fa : Int32) : rQ f nx pl tk nu op fa 8 = fa := by simp [rQ, xup]
theorem rQs_3 (f : Nat → Int32) (nx pl tk nu op fa v : Int32) : xup (rQ f nx pl tk nu op fa) 3 v = rQ f v pl tk nu op fa := by funext k; simp only [rQ, xup]; grind
theorem rQs_4 (f : Nat → Int32) (nx pl tk nu op fa v : Int32) : xup (rQ f nx pl tk nu op fa) 4 v = rQ f nx v tk nu op fa := by funext k; simp only [rQ, xup]; grind
theorem rQs_5 (f : Nat → Int32) (nx pl tk nu op fa v : Int32) : xup (rQ f nx pl tk nu op fa) 5 v = rQ f nx pl v nu op fa := by funext k; simp only [rQ, xup]; grind
theorem rQs_6 (f : Nat → Int32) (nx pl tk nu op fa v : Int32) : xup (rQ f nx pl tk nu op fa) 6 v = rQ f nx pl tk v op fa := by funext k; simp only [rQ, xup]; grind
theorem rQs_7 (f : Nat → Int32) (nx pl tk nu op fa v : Int32) : xup (rQ f nx pl tk nu op fa) 7 v = rQ f nx pl tk nu v fa := by funext k; simp only [rQ, xup]; grind
theorem rQs_8 (f : Nat → Int32) (nx pl tk nu op fa v : Int32) : xup (rQ f nx pl tk nu op fa) 8 v = rQ f nx pl tk nu op v := by funext k; simp only [rQ, xup]; grind
theorem rQ_self (f : Nat → Int32) : rQ f (f 3) (f 4) (f 5) (f 6) (f 7) (f 8) = f := by funext k; simp only [rQ, xup]; grind
def rB (g : Nat → Int32) (n p : Nat) : Int32 := if p < n then g p else -1
def bBlank (b : Int32) : Bool := decide (b = 32) || decide (b = 10)
def bLetter (b : Int32) : Bool := xin b 97 122
def bDigit (b : Int32) : Bool := xin b 48 57
def bSign (b : Int32) : Bool := decide (b = 40) || decide (b = 41) || decide (b = 59) || decide (b = 43) || decide (b = 45) || decide (b = 42) || decide (b = 60) || decide (b = 61)
def rRun (P : Int32 → Bool) (g : Nat → Int32) (n : Nat) : Nat → Nat → Nat
  | 0, p => p
  | k + 1, p => if P (rB g n p) = true then rRun P g n k (p + 1) else p
theorem rRun_b (P : Int32 → Bool) (g : Nat → Int32) (n : Nat) : ∀ k p, p ≤ rRun P g n k p ∧ rRun P g n k p ≤ p + k
  | 0, p => ⟨Nat.le_refl _, Nat.le_refl _⟩
  | k + 1, p => by
    rw [rRun]
    split
    · have := rRun_b P g n k (p + 1); omega
    · omega
theorem rRun_s {P : Int32 → Bool} {g : Nat → Int32} {n k p e : Nat} (hk : k < 160) (h : rRun P g n (160 - k) p = e) (c : P (rB g n p) = true) : rRun P g n (160 - (k + 1)) (p + 1) = e := by
  rw [show 160 - k = (160 - (k + 1)) + 1 by omega, rRun, if_pos c] at h
  exact h
theorem rRun_e {P : Int32 → Bool} {g : Nat → Int32} {n k p e : Nat} (hk : k < 160) (h : rRun P g n (160 - k) p = e) (c : ¬ P (rB g n p) = true) : p = e := by
  rw [show 160 - k = (160 - (k + 1)) + 1 by omega, rRun, if_neg c] at h
  exact h
theorem rRun_z {P : Int32 → Bool} {g : Nat → Int32} {n p e : Nat} (h : rRun P g n (160 - 160) p = e) : p = e := h
theorem c_Reader_isBlank (l : Launch) (G : xG) {d : Nat} (nn : Nat) (M : xM) (hd : 1 ≤ d) (b : Int32) : XM l G d y_Reader_isBlank b_Reader_isBlank 1 (some .boolean) 0 0 xK0 [.int b] nn M (some (.int (xb (bBlank b)))) nn M := by
  refine XM.of (by decide) (Nat.le_of_ble_eq_true rfl) (L := [(0, .int b)]) rfl ?_
  refine X_iload_n d_Reader_isBlank_0 rfl rfl ?_
  refine X_bipush (v := 32) d_Reader_isBlank_1 rfl ?_
  refine X_icmp_eq (tgt := 12) d_Reader_isBlank_3 (by decide) (fun c_1 => ?_) (fun c_1 => ?_)
  ·
    refine X_iconst (v := 1) d_Reader_isBlank_12 rfl ?_
    refine X_goto (tgt := 17) d_Reader_isBlank_13 (by decide) ?_
    exact X_zret rfl rfl (congrArg (fun q => some (Value.int q)) (by simp [xb, bBlank, c_1])) (xle_rf _) d_Reader_isBlank_17
  ·
    refine X_iload_n d_Reader_isBlank_6 rfl rfl ?_
    refine X_bipush (v := 10) d_Reader_isBlank_7 rfl ?_
    refine X_icmp_ne (tgt := 16) d_Reader_isBlank_9 (by decide) (fun c_2 => ?_) (fun c_2 => ?_)
    ·
      refine X_iconst (v := 0) d_Reader_isBlank_16 rfl ?_
      exact X_zret rfl rfl (congrArg (fun q => some (Value.int q)) (by simp [xb, bBlank, c_1, c_2])) (xle_rf _) d_Reader_isBlank_17
    ·
      refine X_iconst (v := 1) d_Reader_isBlank_12 rfl ?_
      refine X_goto (tgt := 17) d_Reader_isBlank_13 (by decide) ?_
      exact X_zret rfl rfl (congrArg (fun q => some (Value.int q)) (by simp [xb, bBlank, c_1, c_2])) (xle_rf _) d_Reader_isBlank_17
theorem c_Reader_isLetter (l : Launch) (G : xG) {d : Nat} (nn : Nat) (M : xM) (hd : 1 ≤ d) (b : Int32) : XM l G d y_Reader_isLetter b_Reader_isLetter 1 (some .boolean) 0 0 xK0 [.int b] nn M (some (.int (xb (bLetter b)))) nn M := by
  refine XM.of (by decide) (Nat.le_of_ble_eq_true rfl) (L := [(0, .int b)]) rfl ?_
  refine X_iload_n d_Reader_isLetter_0 rfl rfl ?_
  refine X_bipush (v := 97) d_Reader_isLetter_1 rfl ?_
  refine X_icmp_lt (tgt := 16) d_Reader_isLetter_3 (by decide) (fun c_1 => ?_) (fun c_1 => ?_)
  ·
    refine X_iconst (v := 0) d_Reader_isLetter_16 rfl ?_
    exact X_zret rfl rfl (congrArg (fun q => some (Value.int q)) (by simp [xb, bLetter, xin, c_1, Int32.not_le.mpr c_1])) (xle_rf _) d_Reader_isLetter_17
  ·
    refine X_iload_n d_Reader_isLetter_6 rfl rfl ?_
    refine X_bipush (v := 122) d_Reader_isLetter_7 rfl ?_
    refine X_icmp_gt (tgt := 16) d_Reader_isLetter_9 (by decide) (fun c_2 => ?_) (fun c_2 => ?_)
    ·
      refine X_iconst (v := 0) d_Reader_isLetter_16 rfl ?_
      exact X_zret rfl rfl (congrArg (fun q => some (Value.int q)) (by simp [xb, bLetter, xin, c_1, Int32.not_lt.mp c_1, c_2, Int32.not_le.mpr c_2])) (xle_rf _) d_Reader_isLetter_17
    ·
      refine X_iconst (v := 1) d_Reader_isLetter_12 rfl ?_
      refine X_goto (tgt := 17) d_Reader_isLetter_13 (by decide) ?_
      exact X_zret rfl rfl (congrArg (fun q => some (Value.int q)) (by simp [xb, bLetter, xin, c_1, Int32.not_lt.mp c_1, c_2, Int32.not_lt.mp c_2])) (xle_rf _) d_Reader_isLetter_17
theorem c_Reader_isDigit (l : Launch) (G : xG) {d : Nat} (nn : Nat) (M : xM) (hd : 1 ≤ d) (b : Int32) : XM l G d y_Reader_isDigit b_Reader_isDigit 1 (some .boolean) 0 0 xK0 [.int b] nn M (some (.int (xb (bDigit b)))) nn M := by
  refine XM.of (by decide) (Nat.le_of_ble_eq_true rfl) (L := [(0, .int b)]) rfl ?_
  refine X_iload_n d_Reader_isDigit_0 rfl rfl ?_
  refine X_bipush (v := 48) d_Reader_isDigit_1 rfl ?_
  refine X_icmp_lt (tgt := 16) d_Reader_isDigit_3 (by decide) (fun c_1 => ?_) (fun c_1 => ?_)
  ·
    refine X_iconst (v := 0) d_Reader_isDigit_16 rfl ?_
    exact X_zret rfl rfl (congrArg (fun q => some (Value.int q)) (by simp [xb, bDigit, xin, c_1, Int32.not_le.mpr c_1])) (xle_rf _) d_Reader_isDigit_17
  ·
    refine X_iload_n d_Reader_isDigit_6 rfl rfl ?_
    refine X_bipush (v := 57) d_Reader_isDigit_7 rfl ?_
    refine X_icmp_gt (tgt := 16) d_Reader_isDigit_9 (by decide) (fun c_2 => ?_) (fun c_2 => ?_)
    ·
      refine X_iconst (v := 0) d_Reader_isDigit_16 rfl ?_
      exact X_zret rfl rfl (congrArg (fun q => some (Value.int q)) (by simp [xb, bDigit, xin, c_1, Int32.not_lt.mp c_1, c_2, Int32.not_le.mpr c_2])) (xle_rf _) d_Reader_isDigit_17
    ·
      refine X_iconst (v := 1) d_Reader_isDigit_12 rfl ?_
      refine X_goto (tgt := 17) d_Reader_isDigit_13 (by decide) ?_
      exact X_zret rfl rfl (congrArg (fun q => some (Value.int q)) (by simp [xb, bDigit, xin, c_1, Int32.not_lt.mp c_1, c_2, Int32.not_lt.mp c_2])) (xle_rf _) d_Reader_isDigit_17
theorem c_Reader_isSign (l : Launch) (G : xG) {d : Nat} (nn : Nat) (M : xM) (hd : 1 ≤ d) (b : Int32) : XM l G d y_Reader_isSign b_Reader_isSign 1 (some .boolean) 0 0 xK0 [.int b] nn M (some (.int (xb (bSign b)))) nn M := by
  refine XM.of (by decide) (Nat.le_of_ble_eq_true rfl) (L := [(0, .int b)]) rfl ?_
  refine X_iload_n d_Reader_isSign_0 rfl rfl ?_
  refine X_bipush (v := 40) d_Reader_isSign_1 rfl ?_
  refine X_icmp_eq (tgt := 48) d_Reader_isSign_3 (by decide) (fun c_1 => ?_) (fun c_1 => ?_)
  ·
    refine X_iconst (v := 1) d_Reader_isSign_48 rfl ?_
    refine X_goto (tgt := 53) d_Reader_isSign_49 (by decide) ?_
    exact X_zret rfl rfl (congrArg (fun q => some (Value.int q)) (by simp [xb, bSign, c_1])) (xle_rf _) d_Reader_isSign_53
  ·
    refine X_iload_n d_Reader_isSign_6 rfl rfl ?_
    refine X_bipush (v := 41) d_Reader_isSign_7 rfl ?_
    refine X_icmp_eq (tgt := 48) d_Reader_isSign_9 (by decide) (fun c_2 => ?_) (fun c_2 => ?_)
    ·
      refine X_iconst (v := 1) d_Reader_isSign_48 rfl ?_
      refine X_goto (tgt := 53) d_Reader_isSign_49 (by decide) ?_
      exact X_zret rfl rfl (congrArg (fun q => some (Value.int q)) (by simp [xb, bSign, c_1, c_2])) (xle_rf _) d_Reader_isSign_53
    ·
      refine X_iload_n d_Reader_isSign_12 rfl rfl ?_
      refine X_bipush (v := 59) d_Reader_isSign_13 rfl ?_
      refine X_icmp_eq (tgt := 48) d_Reader_isSign_15 (by decide) (fun c_3 => ?_) (fun c_3 => ?_)
      ·
        refine X_iconst (v := 1) d_Reader_isSign_48 rfl ?_
        refine X_goto (tgt := 53) d_Reader_isSign_49 (by decide) ?_
        exact X_zret rfl rfl (congrArg (fun q => some (Value.int q)) (by simp [xb, bSign, c_1, c_2, c_3])) (xle_rf _) d_Reader_isSign_53
      ·
        refine X_iload_n d_Reader_isSign_18 rfl rfl ?_
        refine X_bipush (v := 43) d_Reader_isSign_19 rfl ?_
        refine X_icmp_eq (tgt := 48) d_Reader_isSign_21 (by decide) (fun c_4 => ?_) (fun c_4 => ?_)
        ·
          refine X_iconst (v := 1) d_Reader_isSign_48 rfl ?_
          refine X_goto (tgt := 53) d_Reader_isSign_49 (by decide) ?_
          exact X_zret rfl rfl (congrArg (fun q => some (Value.int q)) (by simp [xb, bSign, c_1, c_2, c_3, c_4])) (xle_rf _) d_Reader_isSign_53
        ·
          refine X_iload_n d_Reader_isSign_24 rfl rfl ?_
          refine X_bipush (v := 45) d_Reader_isSign_25 rfl ?_
          refine X_icmp_eq (tgt := 48) d_Reader_isSign_27 (by decide) (fun c_5 => ?_) (fun c_5 => ?_)
          ·
            refine X_iconst (v := 1) d_Reader_isSign_48 rfl ?_
            refine X_goto (tgt := 53) d_Reader_isSign_49 (by decide) ?_
            exact X_zret rfl rfl (congrArg (fun q => some (Value.int q)) (by simp [xb, bSign, c_1, c_2, c_3, c_4, c_5])) (xle_rf _) d_Reader_isSign_53
          ·
            refine X_iload_n d_Reader_isSign_30 rfl rfl ?_
            refine X_bipush (v := 42) d_Reader_isSign_31 rfl ?_
            refine X_icmp_eq (tgt := 48) d_Reader_isSign_33 (by decide) (fun c_6 => ?_) (fun c_6 => ?_)
            ·
              refine X_iconst (v := 1) d_Reader_isSign_48 rfl ?_
              refine X_goto (tgt := 53) d_Reader_isSign_49 (by decide) ?_
              exact X_zret rfl rfl (congrArg (fun q => some (Value.int q)) (by simp [xb, bSign, c_1, c_2, c_3, c_4, c_5, c_6])) (xle_rf _) d_Reader_isSign_53
            ·
              refine X_iload_n d_Reader_isSign_36 rfl rfl ?_
              refine X_bipush (v := 60) d_Reader_isSign_37 rfl ?_
              refine X_icmp_eq (tgt := 48) d_Reader_isSign_39 (by decide) (fun c_7 => ?_) (fun c_7 => ?_)
              ·
                refine X_iconst (v := 1) d_Reader_isSign_48 rfl ?_
                refine X_goto (tgt := 53) d_Reader_isSign_49 (by decide) ?_
                exact X_zret rfl rfl (congrArg (fun q => some (Value.int q)) (by simp [xb, bSign, c_1, c_2, c_3, c_4, c_5, c_6, c_7])) (xle_rf _) d_Reader_isSign_53
              ·
                refine X_iload_n d_Reader_isSign_42 rfl rfl ?_
                refine X_bipush (v := 61) d_Reader_isSign_43 rfl ?_
                refine X_icmp_ne (tgt := 52) d_Reader_isSign_45 (by decide) (fun c_8 => ?_) (fun c_8 => ?_)
                ·
                  refine X_iconst (v := 0) d_Reader_isSign_52 rfl ?_
                  exact X_zret rfl rfl (congrArg (fun q => some (Value.int q)) (by simp [xb, bSign, c_1, c_2, c_3, c_4, c_5, c_6, c_7, c_8])) (xle_rf _) d_Reader_isSign_53
                ·
                  refine X_iconst (v := 1) d_Reader_isSign_48 rfl ?_
                  refine X_goto (tgt := 53) d_Reader_isSign_49 (by decide) ?_
                  exact X_zret rfl rfl (congrArg (fun q => some (Value.int q)) (by simp [xb, bSign, c_1, c_2, c_3, c_4, c_5, c_6, c_7, c_8])) (xle_rf _) d_Reader_isSign_53
def wL (k : Nat) : Int64 := [89436307, 6328499, 2275475, 498, 1476, 14836, 20452516, 99685, 707748, 441925, 20101733, 189619].getD k 0
theorem nI_lss {p n : Nat} (hp : p < 2 ^ 31) (hn : n < 2 ^ 31) (c : ¬ nI n ≤ nI p) : p < n := by
  rcases Nat.lt_or_ge p n with q | q
  · exact q
  · exact absurd (nI_le q hp) c
theorem nI_nls {p n : Nat} (hp : p < 2 ^ 31) (hn : n < 2 ^ 31) (c : nI n ≤ nI p) : ¬ p < n := by
  have := (nI_leI hn hp).mp c
  omega
theorem c_Reader_byteAt (l : Launch) (G : xG) {d : Nat} (nn : Nat) (hd : 1 ≤ d) (I : xI) (f : Nat → Int32) (n : Nat) (h2 : f 2 = nI n) (hn : n ≤ 160) (nx pl tk nu op fa : Int32) (p : Nat) (hp : p < 1000) : XM l G d y_Reader_byteAt b_Reader_byteAt 2 (some .int) 0 0 xK0 [.ref (xg G 11), .int (nI p)] nn (xm G xYf (xup I 11 (rQ f nx pl tk nu op fa))) (some (.int (rB (I 12) n p))) nn (xm G xYf (xup I 11 (rQ f nx pl tk nu op fa))) := by
  refine XM.of (by decide) (Nat.le_of_ble_eq_true rfl) (L := [(0, .ref (xg G 11)), (1, .int (nI p))]) rfl ?_
  refine X_iload_n d_Reader_byteAt_0 rfl rfl ?_
  refine X_if_lt (tgt := 30) d_Reader_byteAt_1 (by decide) (fun c_1 => absurd c_1 (nI_pos (by omega))) (fun _ => ?_)
  refine X_iload_n d_Reader_byteAt_4 rfl rfl ?_
  refine X_aload_n d_Reader_byteAt_5 rfl rfl ?_
  refine X_getI (v := nI n) fg_Reader_35 (show xYf 11 = some (sReader 12 13) from rfl) rfl ((congrFun (xup_s _ _ _) _).trans ((rQ_2 _ _ _ _ _ _ _).trans h2)) d_Reader_byteAt_6 ?_
  refine X_icmp_ge (tgt := 30) d_Reader_byteAt_9 (by decide) (fun c_2 => ?_) (fun c_2 => ?_)
  ·
    refine X_iconst (v := -1) d_Reader_byteAt_30 rfl ?_
    exact X_iret rfl (congrArg (fun q => some (Value.int q)) (by rw [rB, if_neg (nI_nls (by omega) (by omega) c_2)])) (xle_rf _) d_Reader_byteAt_31
  ·
    have hpn := nI_lss (by omega) (by omega) c_2
    refine X_iload_n d_Reader_byteAt_12 rfl rfl ?_
    refine X_aload_n d_Reader_byteAt_13 rfl rfl ?_
    refine X_getR (r := 12) fg_Reader_11 (show xYf 11 = some (sReader 12 13) from rfl) rfl d_Reader_byteAt_14 ?_
    refine X_alenI (v := 160) (show xYf 12 = some (sInts 160) from rfl) rfl d_Reader_byteAt_17 ?_
    refine X_icmp_ge (tgt := 30) d_Reader_byteAt_18 (by decide) (fun c_3 => absurd c_3 (show ¬ nI 160 ≤ nI p from nI_ge (show p < 160 by omega) (by decide))) (fun _ => ?_)
    refine X_aload_n d_Reader_byteAt_21 rfl rfl ?_
    refine X_getR (r := 12) fg_Reader_11 (show xYf 11 = some (sReader 12 13) from rfl) rfl d_Reader_byteAt_22 ?_
    refine X_iload_n d_Reader_byteAt_25 rfl rfl ?_
    refine X_aldI (v := I 12 p) (show xYf 12 = some (sInts 160) from rfl) (vp_in_nI (show p < 160 by omega) (by decide)) ((by rw [nI_cl (show p < 2 ^ 31 by omega)]; exact congrFun (xup_n _ _ (by decide)) _)) d_Reader_byteAt_26 ?_
    refine X_goto (tgt := 31) d_Reader_byteAt_27 (by decide) ?_
    exact X_iret rfl (congrArg (fun q => some (Value.int q)) (by rw [rB, if_pos hpn])) (xle_rf _) d_Reader_byteAt_31
theorem c_Reader_failed (l : Launch) (G : xG) {d : Nat} (nn : Nat) (hd : 1 ≤ d) (I : xI) (f : Nat → Int32) (nx pl tk nu op fa : Int32) : XM l G d y_Reader_failed b_Reader_failed 1 (some .boolean) 0 0 xK0 [.ref (xg G 11)] nn (xm G xYf (xup I 11 (rQ f nx pl tk nu op fa))) (some (.int (xb (decide (0 ≤ fa))))) nn (xm G xYf (xup I 11 (rQ f nx pl tk nu op fa))) := by
  refine XM.of (by decide) (Nat.le_of_ble_eq_true rfl) (L := [(0, .ref (xg G 11))]) rfl ?_
  refine X_aload_n d_Reader_failed_0 rfl rfl ?_
  refine X_getI (v := fa) fg_Reader_50 (show xYf 11 = some (sReader 12 13) from rfl) rfl ((congrFun (xup_s _ _ _) _).trans (rQ_8 _ _ _ _ _ _ _)) d_Reader_failed_1 ?_
  refine X_if_lt (tgt := 11) d_Reader_failed_4 (by decide) (fun c_1 => ?_) (fun c_1 => ?_)
  ·
    refine X_iconst (v := 0) d_Reader_failed_11 rfl ?_
    exact X_zret rfl rfl (congrArg (fun q => some (Value.int q)) (by simp [xb, c_1, Int32.not_le.mpr c_1])) (xle_rf _) d_Reader_failed_12
  ·
    refine X_iconst (v := 1) d_Reader_failed_7 rfl ?_
    refine X_goto (tgt := 12) d_Reader_failed_8 (by decide) ?_
    exact X_zret rfl rfl (congrArg (fun q => some (Value.int q)) (by simp [xb, c_1, Int32.not_lt.mp c_1])) (xle_rf _) d_Reader_failed_12
def rFail (fa pl : Int32) : Int32 := if 0 ≤ fa then fa else pl
theorem c_Reader_fail (l : Launch) (G : xG) {d : Nat} (nn : Nat) (hd : 2 ≤ d) (I : xI) (f : Nat → Int32) (nx pl tk nu op fa : Int32) : XM l G d y_Reader_fail b_Reader_fail 1 (none) 0 0 xK0 [.ref (xg G 11)] nn (xm G xYf (xup I 11 (rQ f nx pl tk nu op fa))) (none) nn (xm G xYf (xup I 11 (rQ f nx pl tk nu op (rFail fa pl)))) := by
  refine XM.of (by decide) (Nat.le_of_ble_eq_true rfl) (L := [(0, .ref (xg G 11))]) rfl ?_
  refine X_aload_n d_Reader_fail_0 rfl rfl ?_
  refine X_aload_n d_Reader_fail_1 rfl rfl ?_
  refine X_callV (v := .int (xb (decide (0 ≤ fa)))) (rest := [.ref (xg G 11)]) (c_Reader_failed l G nn (by omega) I f nx pl tk nu op fa ) lk_Reader_failed ml_Reader_67 (xm_obj (show xYf 11 = some (sReader 12 13) from rfl)) rfl rfl (Nat.le_of_ble_eq_true rfl) (xRok (d' := d - 1) (by omega) (by decide)) ⟨Nat.le_refl _, Nat.le_refl _⟩ d_Reader_fail_2 rfl ?_
  refine X_ifb_eq (tgt := 15) d_Reader_fail_5 (by decide) (fun c_1 => ?_) (fun c_1 => ?_)
  ·
    refine X_aload_n d_Reader_fail_15 rfl rfl ?_
    refine X_getI (v := pl) fg_Reader_71 (show xYf 11 = some (sReader 12 13) from rfl) rfl ((congrFun (xup_s _ _ _) _).trans (rQ_4 _ _ _ _ _ _ _)) d_Reader_fail_16 ?_
    refine X_putI fp_Reader_50 (show xYf 11 = some (sReader 12 13) from rfl) rfl d_Reader_fail_19 ?_
    rw [xw_rec]
    rw [rQs_8]
    exact X_vret rfl rfl (xle_of (congrArg (xm G xYf) (by simp only [rFail]; first | rw [if_pos (of_decide_eq_true c_1)] | rw [if_neg (of_decide_eq_false c_1)]))) d_Reader_fail_22
  ·
    refine X_aload_n d_Reader_fail_8 rfl rfl ?_
    refine X_getI (v := fa) fg_Reader_50 (show xYf 11 = some (sReader 12 13) from rfl) rfl ((congrFun (xup_s _ _ _) _).trans (rQ_8 _ _ _ _ _ _ _)) d_Reader_fail_9 ?_
    refine X_goto (tgt := 19) d_Reader_fail_12 (by decide) ?_
    refine X_putI fp_Reader_50 (show xYf 11 = some (sReader 12 13) from rfl) rfl d_Reader_fail_19 ?_
    rw [xw_rec]
    rw [rQs_8]
    exact X_vret rfl rfl (xle_of (congrArg (xm G xYf) (by simp only [rFail]; first | rw [if_pos (of_decide_eq_true c_1)] | rw [if_neg (of_decide_eq_false c_1)]))) d_Reader_fail_22
theorem c_Reader_at (l : Launch) (G : xG) {d : Nat} (nn : Nat) (hd : 2 ≤ d) (I : xI) (f : Nat → Int32) (nx pl tk nu op fa : Int32) (w : Int32) : XM l G d y_Reader_at b_Reader_at 2 (some .boolean) 0 0 xK0 [.ref (xg G 11), .int w] nn (xm G xYf (xup I 11 (rQ f nx pl tk nu op fa))) (some (.int (xb (!decide (0 ≤ fa) && decide (tk = w))))) nn (xm G xYf (xup I 11 (rQ f nx pl tk nu op fa))) := by
  refine XM.of (by decide) (Nat.le_of_ble_eq_true rfl) (L := [(0, .ref (xg G 11)), (1, .int w)]) rfl ?_
  refine X_aload_n d_Reader_at_0 rfl rfl ?_
  refine X_callV (v := .int (xb (decide (0 ≤ fa)))) (rest := []) (c_Reader_failed l G nn (by omega) I f nx pl tk nu op fa ) lk_Reader_failed ml_Reader_67 (xm_obj (show xYf 11 = some (sReader 12 13) from rfl)) rfl rfl (Nat.le_of_ble_eq_true rfl) (xRok (d' := d - 1) (by omega) (by decide)) ⟨Nat.le_refl _, Nat.le_refl _⟩ d_Reader_at_1 rfl ?_
  refine X_ifb_ne (tgt := 19) d_Reader_at_4 (by decide) (fun c_1 => ?_) (fun c_1 => ?_)
  ·
    refine X_iconst (v := 0) d_Reader_at_19 rfl ?_
    exact X_zret rfl rfl (congrArg (fun q => some (Value.int q)) (by simp_all [xb, c_1])) (xle_rf _) d_Reader_at_20
  ·
    refine X_aload_n d_Reader_at_7 rfl rfl ?_
    refine X_getI (v := tk) fg_Reader_74 (show xYf 11 = some (sReader 12 13) from rfl) rfl ((congrFun (xup_s _ _ _) _).trans (rQ_5 _ _ _ _ _ _ _)) d_Reader_at_8 ?_
    refine X_iload_n d_Reader_at_11 rfl rfl ?_
    refine X_icmp_ne (tgt := 19) d_Reader_at_12 (by decide) (fun c_2 => ?_) (fun c_2 => ?_)
    ·
      refine X_iconst (v := 0) d_Reader_at_19 rfl ?_
      exact X_zret rfl rfl (congrArg (fun q => some (Value.int q)) (by simp_all [xb, c_1, c_2])) (xle_rf _) d_Reader_at_20
    ·
      refine X_iconst (v := 1) d_Reader_at_15 rfl ?_
      refine X_goto (tgt := 20) d_Reader_at_16 (by decide) ?_
      exact X_zret rfl rfl (congrArg (fun q => some (Value.int q)) (by simp_all [xb, c_1, c_2])) (xle_rf _) d_Reader_at_20
def nNum (g : Nat → Int32) (n q : Nat) : Nat → Int32
  | 0 => 0
  | i + 1 => if i < 4 then 10 * nNum g n q i + rB g n (q + i) - 48 else nNum g n q i
def wNum (g : Nat → Int32) (n q : Nat) : Nat → Int64
  | 0 => 0
  | i + 1 => if i < 6 then wNum g n q i * 32 + (rB g n (q + i)).toInt64 - 97 + 1 else -4611686018427387904
def wTok (v : Int64) : Nat → Int32
  | 0 => -1
  | i + 1 => if wL i = v then 128 + nI i else wTok v i
def Q_Reader_takeNumber (l : Launch) (G : xG) (d nn : Nat) (I : xI) (f : Nat → Int32) (n q e : Nat) (tk op fa : Int32) (i : Nat) : Prop := XW l G (xR d 0 0) y_Reader_takeNumber b_Reader_takeNumber 2 none xK0 (xZ G nn (xm G xYf (xup I 11 (rQ f (nI e) (nI q) (if 4 < nI e - nI q then -1 else 1) (nNum (I 12) n q (e - q)) op fa))) none 0 0) nn (xm G xYf (xup I 11 (rQ f (nI (q + i)) (nI q) tk (nNum (I 12) n q i) op fa))) 0 0 7 [(0, .ref (xg G 11)), (1, .int (nI i))] []
theorem w_Reader_takeNumber (l : Launch) (G : xG) {d : Nat} (nn : Nat) (hd : 2 ≤ d) (I : xI) (f : Nat → Int32) (n : Nat) (h2 : f 2 = nI n) (hn : n ≤ 160) (q e : Nat) (hq : q ≤ 160) (tk op fa : Int32) (i : Nat) (hi : i ≤ 160) (ih : i < 160 → rRun bDigit (I 12) n (160 - (i + 1)) (q + i + 1) = e → Q_Reader_takeNumber l G d nn I f n q e tk op fa (i + 1)) (hr : rRun bDigit (I 12) n (160 - i) (q + i) = e) : Q_Reader_takeNumber l G d nn I f n q e tk op fa i := by
  unfold Q_Reader_takeNumber
  refine X_iload_n d_Reader_takeNumber_7 rfl rfl ?_
  refine X_sipush (v := 160) d_Reader_takeNumber_8 rfl ?_
  refine X_icmp_ge (tgt := 79) d_Reader_takeNumber_11 (by decide) (fun c_1 => ?_) (fun c_1 => ?_)
  ·
    have hz : i = 160 := nI_done hi (by decide) c_1
    subst hz
    have he : q + 160 = e := rRun_z hr
    subst he
    refine X_aload_n d_Reader_takeNumber_79 rfl rfl ?_
    refine X_aload_n d_Reader_takeNumber_80 rfl rfl ?_
    refine X_getI (v := nI (q + 160)) fg_Reader_44 (show xYf 11 = some (sReader 12 13) from rfl) rfl ((congrFun (xup_s _ _ _) _).trans (rQ_3 _ _ _ _ _ _ _)) d_Reader_takeNumber_81 ?_
    refine X_aload_n d_Reader_takeNumber_84 rfl rfl ?_
    refine X_getI (v := nI q) fg_Reader_71 (show xYf 11 = some (sReader 12 13) from rfl) rfl ((congrFun (xup_s _ _ _) _).trans (rQ_4 _ _ _ _ _ _ _)) d_Reader_takeNumber_85 ?_
    refine X_isub d_Reader_takeNumber_88 ?_
    refine X_iconst (v := 4) d_Reader_takeNumber_89 rfl ?_
    refine X_icmp_le (tgt := 97) d_Reader_takeNumber_90 (by decide) (fun c_2 => ?_) (fun c_2 => ?_)
    ·
      refine X_iconst (v := 1) d_Reader_takeNumber_97 rfl ?_
      refine X_putI fp_Reader_74 (show xYf 11 = some (sReader 12 13) from rfl) rfl d_Reader_takeNumber_98 ?_
      rw [xw_rec]
      rw [rQs_5]
      exact X_vret rfl rfl (xle_of (congrArg (xm G xYf) (by rw [show q + 160 - q = 160 by omega]; simp [c_1, Int32.not_lt.mpr c_1, c_2, Int32.not_lt.mpr c_2]))) d_Reader_takeNumber_101
    ·
      refine X_iconst (v := -1) d_Reader_takeNumber_93 rfl ?_
      refine X_goto (tgt := 98) d_Reader_takeNumber_94 (by decide) ?_
      refine X_putI fp_Reader_74 (show xYf 11 = some (sReader 12 13) from rfl) rfl d_Reader_takeNumber_98 ?_
      rw [xw_rec]
      rw [rQs_5]
      exact X_vret rfl rfl (xle_of (congrArg (xm G xYf) (by rw [show q + 160 - q = 160 by omega]; simp [c_1, Int32.not_lt.mpr c_1, c_2, Int32.not_le.mp c_2]))) d_Reader_takeNumber_101
  ·
    refine X_aload_n d_Reader_takeNumber_14 rfl rfl ?_
    refine X_aload_n d_Reader_takeNumber_15 rfl rfl ?_
    refine X_getI (v := nI (q + i)) fg_Reader_44 (show xYf 11 = some (sReader 12 13) from rfl) rfl ((congrFun (xup_s _ _ _) _).trans (rQ_3 _ _ _ _ _ _ _)) d_Reader_takeNumber_16 ?_
    refine X_callV (v := .int (rB (I 12) n (q + i))) (rest := []) (c_Reader_byteAt l G nn (by omega) I f n h2 hn (nI (q + i)) (nI q) tk (nNum (I 12) n q i) op fa (q + i) (by omega)) lk_Reader_byteAt ml_Reader_108 (xm_obj (show xYf 11 = some (sReader 12 13) from rfl)) rfl rfl (Nat.le_of_ble_eq_true rfl) (xRok (d' := d - 1) (by omega) (by decide)) ⟨Nat.le_refl _, Nat.le_refl _⟩ d_Reader_takeNumber_19 rfl ?_
    refine X_callS (v := .int (xb (bDigit (rB (I 12) n (q + i))))) (rest := []) (c_Reader_isDigit l G nn _ (by omega) (rB (I 12) n (q + i))) lk_Reader_isDigit ml_Reader_121 rfl (Nat.le_of_ble_eq_true rfl) (xRok (d' := d - 1) (by omega) (by decide)) ⟨Nat.le_refl _, Nat.le_refl _⟩ d_Reader_takeNumber_22 rfl ?_
    refine X_ifb_eq (tgt := 79) d_Reader_takeNumber_25 (by decide) (fun c_3 => ?_) (fun c_3 => ?_)
    ·
      have hlt : i < 160 := nI_more hi (by decide) c_1
      have he : q + i = e := rRun_e hlt hr (by simp [c_3])
      subst he
      refine X_aload_n d_Reader_takeNumber_79 rfl rfl ?_
      refine X_aload_n d_Reader_takeNumber_80 rfl rfl ?_
      refine X_getI (v := nI (q + i)) fg_Reader_44 (show xYf 11 = some (sReader 12 13) from rfl) rfl ((congrFun (xup_s _ _ _) _).trans (rQ_3 _ _ _ _ _ _ _)) d_Reader_takeNumber_81 ?_
      refine X_aload_n d_Reader_takeNumber_84 rfl rfl ?_
      refine X_getI (v := nI q) fg_Reader_71 (show xYf 11 = some (sReader 12 13) from rfl) rfl ((congrFun (xup_s _ _ _) _).trans (rQ_4 _ _ _ _ _ _ _)) d_Reader_takeNumber_85 ?_
      refine X_isub d_Reader_takeNumber_88 ?_
      refine X_iconst (v := 4) d_Reader_takeNumber_89 rfl ?_
      refine X_icmp_le (tgt := 97) d_Reader_takeNumber_90 (by decide) (fun c_4 => ?_) (fun c_4 => ?_)
      ·
        refine X_iconst (v := 1) d_Reader_takeNumber_97 rfl ?_
        refine X_putI fp_Reader_74 (show xYf 11 = some (sReader 12 13) from rfl) rfl d_Reader_takeNumber_98 ?_
        rw [xw_rec]
        rw [rQs_5]
        exact X_vret rfl rfl (xle_of (congrArg (xm G xYf) (by rw [show q + i - q = i by omega]; simp [c_1, Int32.not_le.mp c_1, c_3, c_4, Int32.not_lt.mpr c_4]))) d_Reader_takeNumber_101
      ·
        refine X_iconst (v := -1) d_Reader_takeNumber_93 rfl ?_
        refine X_goto (tgt := 98) d_Reader_takeNumber_94 (by decide) ?_
        refine X_putI fp_Reader_74 (show xYf 11 = some (sReader 12 13) from rfl) rfl d_Reader_takeNumber_98 ?_
        rw [xw_rec]
        rw [rQs_5]
        exact X_vret rfl rfl (xle_of (congrArg (xm G xYf) (by rw [show q + i - q = i by omega]; simp [c_1, Int32.not_le.mp c_1, c_3, c_4, Int32.not_le.mp c_4]))) d_Reader_takeNumber_101
    ·
      refine X_aload_n d_Reader_takeNumber_28 rfl rfl ?_
      refine X_iload_n d_Reader_takeNumber_29 rfl rfl ?_
      refine X_iconst (v := 4) d_Reader_takeNumber_30 rfl ?_
      refine X_icmp_ge (tgt := 56) d_Reader_takeNumber_31 (by decide) (fun c_5 => ?_) (fun c_5 => ?_)
      ·
        refine X_aload_n d_Reader_takeNumber_56 rfl rfl ?_
        refine X_getI (v := nNum (I 12) n q i) fg_Reader_105 (show xYf 11 = some (sReader 12 13) from rfl) rfl ((congrFun (xup_s _ _ _) _).trans (rQ_6 _ _ _ _ _ _ _)) d_Reader_takeNumber_57 ?_
        refine X_putI fp_Reader_105 (show xYf 11 = some (sReader 12 13) from rfl) rfl d_Reader_takeNumber_60 ?_
        rw [xw_rec]
        rw [rQs_6]
        refine X_aload_n d_Reader_takeNumber_63 rfl rfl ?_
        refine X_dup d_Reader_takeNumber_64 rfl ?_
        refine X_getI (v := nI (q + i)) fg_Reader_44 (show xYf 11 = some (sReader 12 13) from rfl) rfl ((congrFun (xup_s _ _ _) _).trans (rQ_3 _ _ _ _ _ _ _)) d_Reader_takeNumber_65 ?_
        refine X_iconst (v := 1) d_Reader_takeNumber_68 rfl ?_
        refine X_iadd d_Reader_takeNumber_69 ?_
        refine X_putI fp_Reader_44 (show xYf 11 = some (sReader 12 13) from rfl) rfl d_Reader_takeNumber_70 ?_
        rw [xw_rec]
        rw [rQs_3]
        refine X_iinc d_Reader_takeNumber_73 rfl (v := (nI i) + 1) rfl (by decide) [1, 0] (L' := [(0, .ref (xg G 11)), (1, .int ((nI i) + 1))]) rfl ?_
        refine X_goto (tgt := 7) d_Reader_takeNumber_76 (by decide) ?_
        have hlt : i < 160 := nI_more hi (by decide) c_1
        have key := ih hlt (rRun_s hlt hr c_3)
        unfold Q_Reader_takeNumber at key
        rw [nNum, if_neg (nI_nls (n := 4) (by omega) (by decide) c_5), ← Nat.add_assoc] at key
        rw [nI_1, nI_1]
        exact key
      ·
        refine X_bipush (v := 10) d_Reader_takeNumber_34 rfl ?_
        refine X_aload_n d_Reader_takeNumber_36 rfl rfl ?_
        refine X_getI (v := nNum (I 12) n q i) fg_Reader_105 (show xYf 11 = some (sReader 12 13) from rfl) rfl ((congrFun (xup_s _ _ _) _).trans (rQ_6 _ _ _ _ _ _ _)) d_Reader_takeNumber_37 ?_
        refine X_imul d_Reader_takeNumber_40 ?_
        refine X_aload_n d_Reader_takeNumber_41 rfl rfl ?_
        refine X_aload_n d_Reader_takeNumber_42 rfl rfl ?_
        refine X_getI (v := nI (q + i)) fg_Reader_44 (show xYf 11 = some (sReader 12 13) from rfl) rfl ((congrFun (xup_s _ _ _) _).trans (rQ_3 _ _ _ _ _ _ _)) d_Reader_takeNumber_43 ?_
        refine X_callV (v := .int (rB (I 12) n (q + i))) (rest := [.int (10 * (nNum (I 12) n q i)), .ref (xg G 11)]) (c_Reader_byteAt l G nn (by omega) I f n h2 hn (nI (q + i)) (nI q) tk (nNum (I 12) n q i) op fa (q + i) (by omega)) lk_Reader_byteAt ml_Reader_108 (xm_obj (show xYf 11 = some (sReader 12 13) from rfl)) rfl rfl (Nat.le_of_ble_eq_true rfl) (xRok (d' := d - 1) (by omega) (by decide)) ⟨Nat.le_refl _, Nat.le_refl _⟩ d_Reader_takeNumber_46 rfl ?_
        refine X_iadd d_Reader_takeNumber_49 ?_
        refine X_bipush (v := 48) d_Reader_takeNumber_50 rfl ?_
        refine X_isub d_Reader_takeNumber_52 ?_
        refine X_goto (tgt := 60) d_Reader_takeNumber_53 (by decide) ?_
        refine X_putI fp_Reader_105 (show xYf 11 = some (sReader 12 13) from rfl) rfl d_Reader_takeNumber_60 ?_
        rw [xw_rec]
        rw [rQs_6]
        refine X_aload_n d_Reader_takeNumber_63 rfl rfl ?_
        refine X_dup d_Reader_takeNumber_64 rfl ?_
        refine X_getI (v := nI (q + i)) fg_Reader_44 (show xYf 11 = some (sReader 12 13) from rfl) rfl ((congrFun (xup_s _ _ _) _).trans (rQ_3 _ _ _ _ _ _ _)) d_Reader_takeNumber_65 ?_
        refine X_iconst (v := 1) d_Reader_takeNumber_68 rfl ?_
        refine X_iadd d_Reader_takeNumber_69 ?_
        refine X_putI fp_Reader_44 (show xYf 11 = some (sReader 12 13) from rfl) rfl d_Reader_takeNumber_70 ?_
        rw [xw_rec]
        rw [rQs_3]
        refine X_iinc d_Reader_takeNumber_73 rfl (v := (nI i) + 1) rfl (by decide) [1, 0] (L' := [(0, .ref (xg G 11)), (1, .int ((nI i) + 1))]) rfl ?_
        refine X_goto (tgt := 7) d_Reader_takeNumber_76 (by decide) ?_
        have hlt : i < 160 := nI_more hi (by decide) c_1
        have key := ih hlt (rRun_s hlt hr c_3)
        unfold Q_Reader_takeNumber at key
        rw [nNum, if_pos (nI_lss (n := 4) (by omega) (by decide) c_5), ← Nat.add_assoc] at key
        rw [nI_1, nI_1]
        exact key
theorem c_Reader_takeNumber (l : Launch) (G : xG) {d : Nat} (nn : Nat) (hd : 2 ≤ d) (I : xI) (f : Nat → Int32) (n : Nat) (h2 : f 2 = nI n) (hn : n ≤ 160) (q : Nat) (hq : q ≤ 160) (tk nu op fa : Int32) : XM l G d y_Reader_takeNumber b_Reader_takeNumber 2 (none) 0 0 xK0 [.ref (xg G 11)] nn (xm G xYf (xup I 11 (rQ f (nI q) (nI q) tk nu op fa))) (none) nn (xm G xYf (xup I 11 (rQ f (nI (rRun bDigit (I 12) n 160 q)) (nI q) (if 4 < nI (rRun bDigit (I 12) n 160 q) - nI q then -1 else 1) (nNum (I 12) n q (rRun bDigit (I 12) n 160 q - q)) op fa))) := by
  refine XM.of (by decide) (Nat.le_of_ble_eq_true rfl) (L := [(0, .ref (xg G 11))]) rfl ?_
  refine X_aload_n d_Reader_takeNumber_0 rfl rfl ?_
  refine X_iconst (v := 0) d_Reader_takeNumber_1 rfl ?_
  refine X_putI fp_Reader_105 (show xYf 11 = some (sReader 12 13) from rfl) rfl d_Reader_takeNumber_2 ?_
  rw [xw_rec]
  rw [rQs_6]
  refine X_iconst (v := 0) d_Reader_takeNumber_5 rfl ?_
  refine X_istore_n d_Reader_takeNumber_6 rfl (by decide) [1, 0] (L' := [(0, .ref (xg G 11)), (1, .int 0)]) rfl ?_
  have hx := xloop (Q := fun i => rRun bDigit (I 12) n (160 - i) (q + i) = rRun bDigit (I 12) n 160 q → Q_Reader_takeNumber l G d nn I f n q (rRun bDigit (I 12) n 160 q) tk op fa i) (T := 160) (fun i hi ih => w_Reader_takeNumber l G nn (by omega) I f n h2 hn q _ hq tk op fa i hi ih) 0 (Nat.zero_le _) rfl
  unfold Q_Reader_takeNumber at hx
  exact hx
def R_Reader_takeWord (l : Launch) (G : xG) (d nn : Nat) (I : xI) (f : Nat → Int32) (nx pl nu op fa : Int32) (v : Int64) (k : Nat) : Prop := XW l G (xR d 0 0) y_Reader_takeWord b_Reader_takeWord 4 none xK0 (xZ G nn (xm G xYf (xup I 11 (rQ f nx pl (wTok v 12) nu op fa))) none 0 0) nn (xm G xYf (xup I 11 (rQ f nx pl (wTok v k) nu op fa))) 0 0 82 [(0, .ref (xg G 11)), (1, .long v), (3, .int (nI k))] []
theorem v_Reader_takeWord (l : Launch) (G : xG) {d : Nat} (nn : Nat) (hd : 2 ≤ d) (I : xI) (f : Nat → Int32) (nx pl nu op fa : Int32) (v : Int64) (k : Nat) (hk : k ≤ 12) (ih : k < 12 → R_Reader_takeWord l G d nn I f nx pl nu op fa v (k + 1)) : R_Reader_takeWord l G d nn I f nx pl nu op fa v k := by
  unfold R_Reader_takeWord
  refine X_iload_n d_Reader_takeWord_82 rfl rfl ?_
  refine X_aload_n d_Reader_takeWord_83 rfl rfl ?_
  refine X_getR (r := 13) fg_Reader_15 (show xYf 11 = some (sReader 12 13) from rfl) rfl d_Reader_takeWord_84 ?_
  refine X_alenL (v := 12) (show xYf 13 = some sWords from rfl) rfl d_Reader_takeWord_87 ?_
  refine X_icmp_ge (tgt := 124) d_Reader_takeWord_88 (by decide) (fun c_1 => ?_) (fun c_1 => ?_)
  ·
    have hz : k = 12 := nI_done hk (by decide) c_1
    subst hz
    exact X_vret rfl rfl (xle_rf _) d_Reader_takeWord_124
  ·
    have hlt : k < 12 := nI_more hk (by decide) c_1
    refine X_aload_n d_Reader_takeWord_91 rfl rfl ?_
    refine X_aload_n d_Reader_takeWord_92 rfl rfl ?_
    refine X_getR (r := 13) fg_Reader_15 (show xYf 11 = some (sReader 12 13) from rfl) rfl d_Reader_takeWord_93 ?_
    refine X_iload_n d_Reader_takeWord_96 rfl rfl ?_
    refine X_aldL (v := wL k) (show xYf 13 = some sWords from rfl) (vp_in_nI (show k < 12 by omega) (by decide)) (by rw [nI_cl (show k < 2 ^ 31 by omega)]; rfl) d_Reader_takeWord_97 ?_
    refine X_lload_n d_Reader_takeWord_98 rfl rfl ?_
    refine X_lcmp d_Reader_takeWord_99 ?_
    refine X_if_ne (tgt := 111) d_Reader_takeWord_100 (by decide) (fun c_2 => ?_) (fun c_2 => ?_)
    ·
      refine X_aload_n d_Reader_takeWord_111 rfl rfl ?_
      refine X_getI (v := wTok v k) fg_Reader_74 (show xYf 11 = some (sReader 12 13) from rfl) rfl ((congrFun (xup_s _ _ _) _).trans (rQ_5 _ _ _ _ _ _ _)) d_Reader_takeWord_112 ?_
      refine X_putI fp_Reader_74 (show xYf 11 = some (sReader 12 13) from rfl) rfl d_Reader_takeWord_115 ?_
      rw [xw_rec]
      rw [rQs_5]
      refine X_iinc d_Reader_takeWord_118 rfl (v := (nI k) + 1) rfl (by decide) [1, 2, 0] (L' := [(0, .ref (xg G 11)), (1, .long v), (3, .int ((nI k) + 1))]) rfl ?_
      refine X_goto (tgt := 82) d_Reader_takeWord_121 (by decide) ?_
      have hlt : k < 12 := nI_more hk (by decide) c_1
      have key := ih hlt
      unfold R_Reader_takeWord at key
      have e : wTok v (k + 1) = wTok v k := by rw [wTok, if_neg (fun z => c_2 ((lg_cmp_eq _ _).mpr z))]
      rw [e] at key
      rw [nI_1]
      exact key
    ·
      refine X_sipush (v := 128) d_Reader_takeWord_103 rfl ?_
      refine X_iload_n d_Reader_takeWord_106 rfl rfl ?_
      refine X_iadd d_Reader_takeWord_107 ?_
      refine X_goto (tgt := 115) d_Reader_takeWord_108 (by decide) ?_
      refine X_putI fp_Reader_74 (show xYf 11 = some (sReader 12 13) from rfl) rfl d_Reader_takeWord_115 ?_
      rw [xw_rec]
      rw [rQs_5]
      refine X_iinc d_Reader_takeWord_118 rfl (v := (nI k) + 1) rfl (by decide) [1, 2, 0] (L' := [(0, .ref (xg G 11)), (1, .long v), (3, .int ((nI k) + 1))]) rfl ?_
      refine X_goto (tgt := 82) d_Reader_takeWord_121 (by decide) ?_
      have hlt : k < 12 := nI_more hk (by decide) c_1
      have key := ih hlt
      unfold R_Reader_takeWord at key
      have e : wTok v (k + 1) = 128 + nI k := by rw [wTok, if_pos ((lg_cmp_eq _ _).mp c_2)]
      rw [e] at key
      rw [nI_1]
      exact key
def Q_Reader_takeWord (l : Launch) (G : xG) (d nn : Nat) (I : xI) (f : Nat → Int32) (n q e : Nat) (pl nu op fa : Int32) (tk : Int32) (i : Nat) : Prop := XW l G (xR d 0 0) y_Reader_takeWord b_Reader_takeWord 4 none xK0 (xZ G nn (xm G xYf (xup I 11 (rQ f (nI e) pl (wTok (wNum (I 12) n q (e - q)) 12) nu op fa))) none 0 0) nn (xm G xYf (xup I 11 (rQ f (nI (q + i)) pl tk nu op fa))) 0 0 4 [(0, .ref (xg G 11)), (1, .long (wNum (I 12) n q i)), (3, .int (nI i))] []
theorem w_Reader_takeWord (l : Launch) (G : xG) {d : Nat} (nn : Nat) (hd : 2 ≤ d) (I : xI) (f : Nat → Int32) (n : Nat) (h2 : f 2 = nI n) (hn : n ≤ 160) (q e : Nat) (hq : q ≤ 160) (pl nu op fa tk : Int32) (i : Nat) (hi : i ≤ 160) (ih : i < 160 → rRun bLetter (I 12) n (160 - (i + 1)) (q + i + 1) = e → Q_Reader_takeWord l G d nn I f n q e pl nu op fa tk (i + 1)) (hr : rRun bLetter (I 12) n (160 - i) (q + i) = e) : Q_Reader_takeWord l G d nn I f n q e pl nu op fa tk i := by
  unfold Q_Reader_takeWord
  refine X_iload_n d_Reader_takeWord_4 rfl rfl ?_
  refine X_sipush (v := 160) d_Reader_takeWord_5 rfl ?_
  refine X_icmp_ge (tgt := 75) d_Reader_takeWord_8 (by decide) (fun c_1 => ?_) (fun c_1 => ?_)
  ·
    refine X_aload_n d_Reader_takeWord_75 rfl rfl ?_
    refine X_iconst (v := -1) d_Reader_takeWord_76 rfl ?_
    refine X_putI fp_Reader_74 (show xYf 11 = some (sReader 12 13) from rfl) rfl d_Reader_takeWord_77 ?_
    rw [xw_rec]
    rw [rQs_5]
    refine X_iconst (v := 0) d_Reader_takeWord_80 rfl ?_
    refine X_istore_n d_Reader_takeWord_81 rfl (by decide) [1, 2, 0] (L' := [(0, .ref (xg G 11)), (1, .long (wNum (I 12) n q i)), (3, .int 0)]) rfl ?_
    have hz : i = 160 := nI_done hi (by decide) c_1
    subst hz
    have he : q + 160 = e := rRun_z hr
    subst he
    have hx := xloop (T := 12) (fun k hk ih => v_Reader_takeWord (d := d) l G nn hd I f (nI (q + 160)) pl nu op fa (wNum (I 12) n q 160) k hk ih) 0 (Nat.zero_le _)
    unfold R_Reader_takeWord at hx
    rw [show q + 160 - q = 160 by omega]
    exact hx
  ·
    refine X_aload_n d_Reader_takeWord_11 rfl rfl ?_
    refine X_aload_n d_Reader_takeWord_12 rfl rfl ?_
    refine X_getI (v := nI (q + i)) fg_Reader_44 (show xYf 11 = some (sReader 12 13) from rfl) rfl ((congrFun (xup_s _ _ _) _).trans (rQ_3 _ _ _ _ _ _ _)) d_Reader_takeWord_13 ?_
    refine X_callV (v := .int (rB (I 12) n (q + i))) (rest := []) (c_Reader_byteAt l G nn (by omega) I f n h2 hn (nI (q + i)) pl tk nu op fa (q + i) (by omega)) lk_Reader_byteAt ml_Reader_108 (xm_obj (show xYf 11 = some (sReader 12 13) from rfl)) rfl rfl (Nat.le_of_ble_eq_true rfl) (xRok (d' := d - 1) (by omega) (by decide)) ⟨Nat.le_refl _, Nat.le_refl _⟩ d_Reader_takeWord_16 rfl ?_
    refine X_callS (v := .int (xb (bLetter (rB (I 12) n (q + i))))) (rest := []) (c_Reader_isLetter l G nn _ (by omega) (rB (I 12) n (q + i))) lk_Reader_isLetter ml_Reader_115 rfl (Nat.le_of_ble_eq_true rfl) (xRok (d' := d - 1) (by omega) (by decide)) ⟨Nat.le_refl _, Nat.le_refl _⟩ d_Reader_takeWord_19 rfl ?_
    refine X_ifb_eq (tgt := 75) d_Reader_takeWord_22 (by decide) (fun c_2 => ?_) (fun c_2 => ?_)
    ·
      refine X_aload_n d_Reader_takeWord_75 rfl rfl ?_
      refine X_iconst (v := -1) d_Reader_takeWord_76 rfl ?_
      refine X_putI fp_Reader_74 (show xYf 11 = some (sReader 12 13) from rfl) rfl d_Reader_takeWord_77 ?_
      rw [xw_rec]
      rw [rQs_5]
      refine X_iconst (v := 0) d_Reader_takeWord_80 rfl ?_
      refine X_istore_n d_Reader_takeWord_81 rfl (by decide) [1, 2, 0] (L' := [(0, .ref (xg G 11)), (1, .long (wNum (I 12) n q i)), (3, .int 0)]) rfl ?_
      have hlt : i < 160 := nI_more hi (by decide) c_1
      have he : q + i = e := rRun_e hlt hr (by simp [c_2])
      subst he
      have hx := xloop (T := 12) (fun k hk ih => v_Reader_takeWord (d := d) l G nn hd I f (nI (q + i)) pl nu op fa (wNum (I 12) n q i) k hk ih) 0 (Nat.zero_le _)
      unfold R_Reader_takeWord at hx
      rw [show q + i - q = i by omega]
      exact hx
    ·
      refine X_iload_n d_Reader_takeWord_25 rfl rfl ?_
      refine X_bipush (v := 6) d_Reader_takeWord_26 rfl ?_
      refine X_icmp_ge (tgt := 55) d_Reader_takeWord_28 (by decide) (fun c_3 => ?_) (fun c_3 => ?_)
      ·
        refine X_ldc2 cs_Reader_130 d_Reader_takeWord_55 ?_
        refine X_lstore_n d_Reader_takeWord_58 rfl (by decide) [1, 0, 2] (L' := [(0, .ref (xg G 11)), (1, .long (-4611686018427387904)), (3, .int (nI i))]) rfl ?_
        refine X_aload_n d_Reader_takeWord_59 rfl rfl ?_
        refine X_dup d_Reader_takeWord_60 rfl ?_
        refine X_getI (v := nI (q + i)) fg_Reader_44 (show xYf 11 = some (sReader 12 13) from rfl) rfl ((congrFun (xup_s _ _ _) _).trans (rQ_3 _ _ _ _ _ _ _)) d_Reader_takeWord_61 ?_
        refine X_iconst (v := 1) d_Reader_takeWord_64 rfl ?_
        refine X_iadd d_Reader_takeWord_65 ?_
        refine X_putI fp_Reader_44 (show xYf 11 = some (sReader 12 13) from rfl) rfl d_Reader_takeWord_66 ?_
        rw [xw_rec]
        rw [rQs_3]
        refine X_iinc d_Reader_takeWord_69 rfl (v := (nI i) + 1) rfl (by decide) [1, 2, 0] (L' := [(0, .ref (xg G 11)), (1, .long (-4611686018427387904)), (3, .int ((nI i) + 1))]) rfl ?_
        refine X_goto (tgt := 4) d_Reader_takeWord_72 (by decide) ?_
        have hlt : i < 160 := nI_more hi (by decide) c_1
        have key := ih hlt (rRun_s hlt hr c_2)
        unfold Q_Reader_takeWord at key
        rw [wNum, if_neg (nI_nls (n := 6) (by omega) (by decide) c_3), ← Nat.add_assoc] at key
        rw [nI_1, nI_1]
        exact key
      ·
        refine X_lload_n d_Reader_takeWord_31 rfl rfl ?_
        refine X_ldc2 cs_Reader_31 d_Reader_takeWord_32 ?_
        refine X_lmul d_Reader_takeWord_35 ?_
        refine X_aload_n d_Reader_takeWord_36 rfl rfl ?_
        refine X_aload_n d_Reader_takeWord_37 rfl rfl ?_
        refine X_getI (v := nI (q + i)) fg_Reader_44 (show xYf 11 = some (sReader 12 13) from rfl) rfl ((congrFun (xup_s _ _ _) _).trans (rQ_3 _ _ _ _ _ _ _)) d_Reader_takeWord_38 ?_
        refine X_callV (v := .int (rB (I 12) n (q + i))) (rest := [.long ((wNum (I 12) n q i) * 32)]) (c_Reader_byteAt l G nn (by omega) I f n h2 hn (nI (q + i)) pl tk nu op fa (q + i) (by omega)) lk_Reader_byteAt ml_Reader_108 (xm_obj (show xYf 11 = some (sReader 12 13) from rfl)) rfl rfl (Nat.le_of_ble_eq_true rfl) (xRok (d' := d - 1) (by omega) (by decide)) ⟨Nat.le_refl _, Nat.le_refl _⟩ d_Reader_takeWord_41 rfl ?_
        refine X_i2l d_Reader_takeWord_44 ?_
        refine X_ladd d_Reader_takeWord_45 ?_
        refine X_ldc2 cs_Reader_33 d_Reader_takeWord_46 ?_
        refine X_lsub d_Reader_takeWord_49 ?_
        refine X_lconst (v := 1) d_Reader_takeWord_50 rfl ?_
        refine X_ladd d_Reader_takeWord_51 ?_
        refine X_goto (tgt := 58) d_Reader_takeWord_52 (by decide) ?_
        refine X_lstore_n d_Reader_takeWord_58 rfl (by decide) [1, 0, 2] (L' := [(0, .ref (xg G 11)), (1, .long (((((wNum (I 12) n q i) * 32) + ((rB (I 12) n (q + i)).toInt64)) - 97) + 1)), (3, .int (nI i))]) rfl ?_
        refine X_aload_n d_Reader_takeWord_59 rfl rfl ?_
        refine X_dup d_Reader_takeWord_60 rfl ?_
        refine X_getI (v := nI (q + i)) fg_Reader_44 (show xYf 11 = some (sReader 12 13) from rfl) rfl ((congrFun (xup_s _ _ _) _).trans (rQ_3 _ _ _ _ _ _ _)) d_Reader_takeWord_61 ?_
        refine X_iconst (v := 1) d_Reader_takeWord_64 rfl ?_
        refine X_iadd d_Reader_takeWord_65 ?_
        refine X_putI fp_Reader_44 (show xYf 11 = some (sReader 12 13) from rfl) rfl d_Reader_takeWord_66 ?_
        rw [xw_rec]
        rw [rQs_3]
        refine X_iinc d_Reader_takeWord_69 rfl (v := (nI i) + 1) rfl (by decide) [1, 2, 0] (L' := [(0, .ref (xg G 11)), (1, .long (((((wNum (I 12) n q i) * 32) + ((rB (I 12) n (q + i)).toInt64)) - 97) + 1)), (3, .int ((nI i) + 1))]) rfl ?_
        refine X_goto (tgt := 4) d_Reader_takeWord_72 (by decide) ?_
        have hlt : i < 160 := nI_more hi (by decide) c_1
        have key := ih hlt (rRun_s hlt hr c_2)
        unfold Q_Reader_takeWord at key
        rw [wNum, if_pos (nI_lss (n := 6) (by omega) (by decide) c_3), ← Nat.add_assoc] at key
        rw [nI_1, nI_1]
        exact key
theorem c_Reader_takeWord (l : Launch) (G : xG) {d : Nat} (nn : Nat) (hd : 2 ≤ d) (I : xI) (f : Nat → Int32) (n : Nat) (h2 : f 2 = nI n) (hn : n ≤ 160) (q : Nat) (hq : q ≤ 160) (pl tk nu op fa : Int32) : XM l G d y_Reader_takeWord b_Reader_takeWord 4 (none) 0 0 xK0 [.ref (xg G 11)] nn (xm G xYf (xup I 11 (rQ f (nI q) pl tk nu op fa))) (none) nn (xm G xYf (xup I 11 (rQ f (nI (rRun bLetter (I 12) n 160 q)) pl (wTok (wNum (I 12) n q (rRun bLetter (I 12) n 160 q - q)) 12) nu op fa))) := by
  refine XM.of (by decide) (Nat.le_of_ble_eq_true rfl) (L := [(0, .ref (xg G 11))]) rfl ?_
  refine X_lconst (v := 0) d_Reader_takeWord_0 rfl ?_
  refine X_lstore_n d_Reader_takeWord_1 rfl (by decide) [1, 0] (L' := [(0, .ref (xg G 11)), (1, .long 0)]) rfl ?_
  refine X_iconst (v := 0) d_Reader_takeWord_2 rfl ?_
  refine X_istore_n d_Reader_takeWord_3 rfl (by decide) [1, 2, 0] (L' := [(0, .ref (xg G 11)), (1, .long 0), (3, .int 0)]) rfl ?_
  have hx := xloop (Q := fun i => rRun bLetter (I 12) n (160 - i) (q + i) = rRun bLetter (I 12) n 160 q → Q_Reader_takeWord l G d nn I f n q (rRun bLetter (I 12) n 160 q) pl nu op fa tk i) (T := 160) (fun i hi ih => w_Reader_takeWord l G nn (by omega) I f n h2 hn q _ hq pl nu op fa tk i hi ih) 0 (Nat.zero_le _) rfl
  unfold Q_Reader_takeWord at hx
  exact hx
def vNx (g : Nat → Int32) (n q : Nat) : Nat := if rB g n q < 0 then q else if bLetter (rB g n q) = true then rRun bLetter g n 160 q else if bDigit (rB g n q) = true then rRun bDigit g n 160 q else q + 1
def vTk (g : Nat → Int32) (n q : Nat) : Int32 := if rB g n q < 0 then 0 else if bLetter (rB g n q) = true then wTok (wNum g n q (rRun bLetter g n 160 q - q)) 12 else if bDigit (rB g n q) = true then (if 4 < nI (rRun bDigit g n 160 q) - nI q then -1 else 1) else if bSign (rB g n q) = true then rB g n q else -1
def vNu (g : Nat → Int32) (n q : Nat) (nu : Int32) : Int32 := if rB g n q < 0 then nu else if bLetter (rB g n q) = true then nu else if bDigit (rB g n q) = true then nNum g n q (rRun bDigit g n 160 q - q) else nu
def vAd (f g : Nat → Int32) (n q : Nat) (nu op fa : Int32) : Nat → Int32 := rQ f (nI (vNx g n q)) (nI q) (vTk g n q) (vNu g n q nu) op fa
def Q_Reader_advance (l : Launch) (G : xG) (d nn : Nat) (I : xI) (f : Nat → Int32) (n p q : Nat) (pl tk nu op fa : Int32) (i : Nat) : Prop := XW l G (xR d 0 0) y_Reader_advance b_Reader_advance 2 none xK0 (xZ G nn (xm G xYf (xup I 11 (vAd f (I 12) n q nu op fa))) none 0 0) nn (xm G xYf (xup I 11 (rQ f (nI (p + i)) pl tk nu op fa))) 0 0 2 [(0, .ref (xg G 11)), (1, .int (nI i))] []
theorem w_Reader_advance (l : Launch) (G : xG) {d : Nat} (nn : Nat) (hd : 3 ≤ d) (I : xI) (f : Nat → Int32) (n : Nat) (h2 : f 2 = nI n) (hn : n ≤ 160) (p q : Nat) (hp : p ≤ 160) (hq : q ≤ 160) (pl tk nu op fa : Int32) (i : Nat) (hi : i ≤ 160) (ih : i < 160 → rRun bBlank (I 12) n (160 - (i + 1)) (p + i + 1) = q → Q_Reader_advance l G d nn I f n p q pl tk nu op fa (i + 1)) (hr : rRun bBlank (I 12) n (160 - i) (p + i) = q) : Q_Reader_advance l G d nn I f n p q pl tk nu op fa i := by
  unfold Q_Reader_advance
  refine X_iload_n d_Reader_advance_2 rfl rfl ?_
  refine X_sipush (v := 160) d_Reader_advance_3 rfl ?_
  refine X_icmp_ge (tgt := 39) d_Reader_advance_6 (by decide) (fun c_1 => ?_) (fun c_1 => ?_)
  ·
    have hz : i = 160 := nI_done hi (by decide) c_1
    subst hz
    have he : p + 160 = q := rRun_z hr
    rw [he]
    refine X_aload_n d_Reader_advance_39 rfl rfl ?_
    refine X_aload_n d_Reader_advance_40 rfl rfl ?_
    refine X_getI (v := nI q) fg_Reader_44 (show xYf 11 = some (sReader 12 13) from rfl) rfl ((congrFun (xup_s _ _ _) _).trans (rQ_3 _ _ _ _ _ _ _)) d_Reader_advance_41 ?_
    refine X_putI fp_Reader_71 (show xYf 11 = some (sReader 12 13) from rfl) rfl d_Reader_advance_44 ?_
    rw [xw_rec]
    rw [rQs_4]
    refine X_aload_n d_Reader_advance_47 rfl rfl ?_
    refine X_aload_n d_Reader_advance_48 rfl rfl ?_
    refine X_getI (v := nI q) fg_Reader_44 (show xYf 11 = some (sReader 12 13) from rfl) rfl ((congrFun (xup_s _ _ _) _).trans (rQ_3 _ _ _ _ _ _ _)) d_Reader_advance_49 ?_
    refine X_callV (v := .int (rB (I 12) n q)) (rest := []) (c_Reader_byteAt l G nn (by omega) I f n h2 hn (nI q) (nI q) tk nu op fa q (by omega)) lk_Reader_byteAt ml_Reader_108 (xm_obj (show xYf 11 = some (sReader 12 13) from rfl)) rfl rfl (Nat.le_of_ble_eq_true rfl) (xRok (d' := d - 1) (by omega) (by decide)) ⟨Nat.le_refl _, Nat.le_refl _⟩ d_Reader_advance_52 rfl ?_
    refine X_istore_n d_Reader_advance_55 rfl (by decide) [1, 0] (L' := [(0, .ref (xg G 11)), (1, .int (rB (I 12) n q))]) rfl ?_
    refine X_iload_n d_Reader_advance_56 rfl rfl ?_
    refine X_if_ge (tgt := 68) d_Reader_advance_57 (by decide) (fun c_2 => ?_) (fun c_2 => ?_)
    ·
      refine X_iload_n d_Reader_advance_68 rfl rfl ?_
      refine X_callS (v := .int (xb (bLetter (rB (I 12) n q)))) (rest := []) (c_Reader_isLetter l G nn _ (by omega) (rB (I 12) n q)) lk_Reader_isLetter ml_Reader_115 rfl (Nat.le_of_ble_eq_true rfl) (xRok (d' := d - 1) (by omega) (by decide)) ⟨Nat.le_refl _, Nat.le_refl _⟩ d_Reader_advance_69 rfl ?_
      refine X_ifb_eq (tgt := 82) d_Reader_advance_72 (by decide) (fun c_3 => ?_) (fun c_3 => ?_)
      ·
        refine X_iload_n d_Reader_advance_82 rfl rfl ?_
        refine X_callS (v := .int (xb (bDigit (rB (I 12) n q)))) (rest := []) (c_Reader_isDigit l G nn _ (by omega) (rB (I 12) n q)) lk_Reader_isDigit ml_Reader_121 rfl (Nat.le_of_ble_eq_true rfl) (xRok (d' := d - 1) (by omega) (by decide)) ⟨Nat.le_refl _, Nat.le_refl _⟩ d_Reader_advance_83 rfl ?_
        refine X_ifb_eq (tgt := 96) d_Reader_advance_86 (by decide) (fun c_4 => ?_) (fun c_4 => ?_)
        ·
          refine X_aload_n d_Reader_advance_96 rfl rfl ?_
          refine X_dup d_Reader_advance_97 rfl ?_
          refine X_getI (v := nI q) fg_Reader_44 (show xYf 11 = some (sReader 12 13) from rfl) rfl ((congrFun (xup_s _ _ _) _).trans (rQ_3 _ _ _ _ _ _ _)) d_Reader_advance_98 ?_
          refine X_iconst (v := 1) d_Reader_advance_101 rfl ?_
          refine X_iadd d_Reader_advance_102 ?_
          refine X_putI fp_Reader_44 (show xYf 11 = some (sReader 12 13) from rfl) rfl d_Reader_advance_103 ?_
          rw [xw_rec]
          rw [rQs_3]
          refine X_aload_n d_Reader_advance_106 rfl rfl ?_
          refine X_iload_n d_Reader_advance_107 rfl rfl ?_
          refine X_callS (v := .int (xb (bSign (rB (I 12) n q)))) (rest := [.ref (xg G 11)]) (c_Reader_isSign l G nn _ (by omega) (rB (I 12) n q)) lk_Reader_isSign ml_Reader_127 rfl (Nat.le_of_ble_eq_true rfl) (xRok (d' := d - 1) (by omega) (by decide)) ⟨Nat.le_refl _, Nat.le_refl _⟩ d_Reader_advance_108 rfl ?_
          refine X_ifb_eq (tgt := 118) d_Reader_advance_111 (by decide) (fun c_5 => ?_) (fun c_5 => ?_)
          ·
            refine X_iconst (v := -1) d_Reader_advance_118 rfl ?_
            refine X_putI fp_Reader_74 (show xYf 11 = some (sReader 12 13) from rfl) rfl d_Reader_advance_119 ?_
            rw [xw_rec]
            rw [rQs_5]
            exact X_vret rfl rfl (xle_of (congrArg (xm G xYf) (by simp [vAd, vNx, vTk, vNu, nI_1, c_2, Int32.not_lt.mpr c_2, c_3, c_4, c_5]))) d_Reader_advance_122
          ·
            refine X_iload_n d_Reader_advance_114 rfl rfl ?_
            refine X_goto (tgt := 119) d_Reader_advance_115 (by decide) ?_
            refine X_putI fp_Reader_74 (show xYf 11 = some (sReader 12 13) from rfl) rfl d_Reader_advance_119 ?_
            rw [xw_rec]
            rw [rQs_5]
            exact X_vret rfl rfl (xle_of (congrArg (xm G xYf) (by simp [vAd, vNx, vTk, vNu, nI_1, c_2, Int32.not_lt.mpr c_2, c_3, c_4, c_5]))) d_Reader_advance_122
        ·
          refine X_aload_n d_Reader_advance_89 rfl rfl ?_
          refine X_callVv (rest := []) (c_Reader_takeNumber l G nn (by omega) I f n h2 hn q (by omega) tk nu op fa) lk_Reader_takeNumber ml_Reader_124 (xm_obj (show xYf 11 = some (sReader 12 13) from rfl)) rfl rfl (Nat.le_of_ble_eq_true rfl) (xRok (d' := d - 1) (by omega) (by decide)) ⟨Nat.le_refl _, Nat.le_refl _⟩ d_Reader_advance_90 rfl ?_
          refine X_goto (tgt := 122) d_Reader_advance_93 (by decide) ?_
          exact X_vret rfl rfl (xle_of (congrArg (xm G xYf) (by simp [vAd, vNx, vTk, vNu, nI_1, c_2, Int32.not_lt.mpr c_2, c_3, c_4]))) d_Reader_advance_122
      ·
        refine X_aload_n d_Reader_advance_75 rfl rfl ?_
        refine X_callVv (rest := []) (c_Reader_takeWord l G nn (by omega) I f n h2 hn q (by omega) (nI q) tk nu op fa) lk_Reader_takeWord ml_Reader_118 (xm_obj (show xYf 11 = some (sReader 12 13) from rfl)) rfl rfl (Nat.le_of_ble_eq_true rfl) (xRok (d' := d - 1) (by omega) (by decide)) ⟨Nat.le_refl _, Nat.le_refl _⟩ d_Reader_advance_76 rfl ?_
        refine X_goto (tgt := 122) d_Reader_advance_79 (by decide) ?_
        exact X_vret rfl rfl (xle_of (congrArg (xm G xYf) (by simp [vAd, vNx, vTk, vNu, nI_1, c_2, Int32.not_lt.mpr c_2, c_3]))) d_Reader_advance_122
    ·
      refine X_aload_n d_Reader_advance_60 rfl rfl ?_
      refine X_iconst (v := 0) d_Reader_advance_61 rfl ?_
      refine X_putI fp_Reader_74 (show xYf 11 = some (sReader 12 13) from rfl) rfl d_Reader_advance_62 ?_
      rw [xw_rec]
      rw [rQs_5]
      refine X_goto (tgt := 122) d_Reader_advance_65 (by decide) ?_
      exact X_vret rfl rfl (xle_of (congrArg (xm G xYf) (by simp [vAd, vNx, vTk, vNu, nI_1, c_2, Int32.not_le.mp c_2]))) d_Reader_advance_122
  ·
    refine X_aload_n d_Reader_advance_9 rfl rfl ?_
    refine X_aload_n d_Reader_advance_10 rfl rfl ?_
    refine X_getI (v := nI (p + i)) fg_Reader_44 (show xYf 11 = some (sReader 12 13) from rfl) rfl ((congrFun (xup_s _ _ _) _).trans (rQ_3 _ _ _ _ _ _ _)) d_Reader_advance_11 ?_
    refine X_callV (v := .int (rB (I 12) n (p + i))) (rest := []) (c_Reader_byteAt l G nn (by omega) I f n h2 hn (nI (p + i)) pl tk nu op fa (p + i) (by omega)) lk_Reader_byteAt ml_Reader_108 (xm_obj (show xYf 11 = some (sReader 12 13) from rfl)) rfl rfl (Nat.le_of_ble_eq_true rfl) (xRok (d' := d - 1) (by omega) (by decide)) ⟨Nat.le_refl _, Nat.le_refl _⟩ d_Reader_advance_14 rfl ?_
    refine X_callS (v := .int (xb (bBlank (rB (I 12) n (p + i))))) (rest := []) (c_Reader_isBlank l G nn _ (by omega) (rB (I 12) n (p + i))) lk_Reader_isBlank ml_Reader_112 rfl (Nat.le_of_ble_eq_true rfl) (xRok (d' := d - 1) (by omega) (by decide)) ⟨Nat.le_refl _, Nat.le_refl _⟩ d_Reader_advance_17 rfl ?_
    refine X_ifb_eq (tgt := 39) d_Reader_advance_20 (by decide) (fun c_6 => ?_) (fun c_6 => ?_)
    ·
      have hlt : i < 160 := nI_more hi (by decide) c_1
      have he : p + i = q := rRun_e hlt hr (by simp [c_6])
      rw [he]
      refine X_aload_n d_Reader_advance_39 rfl rfl ?_
      refine X_aload_n d_Reader_advance_40 rfl rfl ?_
      refine X_getI (v := nI q) fg_Reader_44 (show xYf 11 = some (sReader 12 13) from rfl) rfl ((congrFun (xup_s _ _ _) _).trans (rQ_3 _ _ _ _ _ _ _)) d_Reader_advance_41 ?_
      refine X_putI fp_Reader_71 (show xYf 11 = some (sReader 12 13) from rfl) rfl d_Reader_advance_44 ?_
      rw [xw_rec]
      rw [rQs_4]
      refine X_aload_n d_Reader_advance_47 rfl rfl ?_
      refine X_aload_n d_Reader_advance_48 rfl rfl ?_
      refine X_getI (v := nI q) fg_Reader_44 (show xYf 11 = some (sReader 12 13) from rfl) rfl ((congrFun (xup_s _ _ _) _).trans (rQ_3 _ _ _ _ _ _ _)) d_Reader_advance_49 ?_
      refine X_callV (v := .int (rB (I 12) n q)) (rest := []) (c_Reader_byteAt l G nn (by omega) I f n h2 hn (nI q) (nI q) tk nu op fa q (by omega)) lk_Reader_byteAt ml_Reader_108 (xm_obj (show xYf 11 = some (sReader 12 13) from rfl)) rfl rfl (Nat.le_of_ble_eq_true rfl) (xRok (d' := d - 1) (by omega) (by decide)) ⟨Nat.le_refl _, Nat.le_refl _⟩ d_Reader_advance_52 rfl ?_
      refine X_istore_n d_Reader_advance_55 rfl (by decide) [1, 0] (L' := [(0, .ref (xg G 11)), (1, .int (rB (I 12) n q))]) rfl ?_
      refine X_iload_n d_Reader_advance_56 rfl rfl ?_
      refine X_if_ge (tgt := 68) d_Reader_advance_57 (by decide) (fun c_7 => ?_) (fun c_7 => ?_)
      ·
        refine X_iload_n d_Reader_advance_68 rfl rfl ?_
        refine X_callS (v := .int (xb (bLetter (rB (I 12) n q)))) (rest := []) (c_Reader_isLetter l G nn _ (by omega) (rB (I 12) n q)) lk_Reader_isLetter ml_Reader_115 rfl (Nat.le_of_ble_eq_true rfl) (xRok (d' := d - 1) (by omega) (by decide)) ⟨Nat.le_refl _, Nat.le_refl _⟩ d_Reader_advance_69 rfl ?_
        refine X_ifb_eq (tgt := 82) d_Reader_advance_72 (by decide) (fun c_8 => ?_) (fun c_8 => ?_)
        ·
          refine X_iload_n d_Reader_advance_82 rfl rfl ?_
          refine X_callS (v := .int (xb (bDigit (rB (I 12) n q)))) (rest := []) (c_Reader_isDigit l G nn _ (by omega) (rB (I 12) n q)) lk_Reader_isDigit ml_Reader_121 rfl (Nat.le_of_ble_eq_true rfl) (xRok (d' := d - 1) (by omega) (by decide)) ⟨Nat.le_refl _, Nat.le_refl _⟩ d_Reader_advance_83 rfl ?_
          refine X_ifb_eq (tgt := 96) d_Reader_advance_86 (by decide) (fun c_9 => ?_) (fun c_9 => ?_)
          ·
            refine X_aload_n d_Reader_advance_96 rfl rfl ?_
            refine X_dup d_Reader_advance_97 rfl ?_
            refine X_getI (v := nI q) fg_Reader_44 (show xYf 11 = some (sReader 12 13) from rfl) rfl ((congrFun (xup_s _ _ _) _).trans (rQ_3 _ _ _ _ _ _ _)) d_Reader_advance_98 ?_
            refine X_iconst (v := 1) d_Reader_advance_101 rfl ?_
            refine X_iadd d_Reader_advance_102 ?_
            refine X_putI fp_Reader_44 (show xYf 11 = some (sReader 12 13) from rfl) rfl d_Reader_advance_103 ?_
            rw [xw_rec]
            rw [rQs_3]
            refine X_aload_n d_Reader_advance_106 rfl rfl ?_
            refine X_iload_n d_Reader_advance_107 rfl rfl ?_
            refine X_callS (v := .int (xb (bSign (rB (I 12) n q)))) (rest := [.ref (xg G 11)]) (c_Reader_isSign l G nn _ (by omega) (rB (I 12) n q)) lk_Reader_isSign ml_Reader_127 rfl (Nat.le_of_ble_eq_true rfl) (xRok (d' := d - 1) (by omega) (by decide)) ⟨Nat.le_refl _, Nat.le_refl _⟩ d_Reader_advance_108 rfl ?_
            refine X_ifb_eq (tgt := 118) d_Reader_advance_111 (by decide) (fun c_10 => ?_) (fun c_10 => ?_)
            ·
              refine X_iconst (v := -1) d_Reader_advance_118 rfl ?_
              refine X_putI fp_Reader_74 (show xYf 11 = some (sReader 12 13) from rfl) rfl d_Reader_advance_119 ?_
              rw [xw_rec]
              rw [rQs_5]
              exact X_vret rfl rfl (xle_of (congrArg (xm G xYf) (by simp [vAd, vNx, vTk, vNu, nI_1, c_7, Int32.not_lt.mpr c_7, c_8, c_9, c_10]))) d_Reader_advance_122
            ·
              refine X_iload_n d_Reader_advance_114 rfl rfl ?_
              refine X_goto (tgt := 119) d_Reader_advance_115 (by decide) ?_
              refine X_putI fp_Reader_74 (show xYf 11 = some (sReader 12 13) from rfl) rfl d_Reader_advance_119 ?_
              rw [xw_rec]
              rw [rQs_5]
              exact X_vret rfl rfl (xle_of (congrArg (xm G xYf) (by simp [vAd, vNx, vTk, vNu, nI_1, c_7, Int32.not_lt.mpr c_7, c_8, c_9, c_10]))) d_Reader_advance_122
          ·
            refine X_aload_n d_Reader_advance_89 rfl rfl ?_
            refine X_callVv (rest := []) (c_Reader_takeNumber l G nn (by omega) I f n h2 hn q (by omega) tk nu op fa) lk_Reader_takeNumber ml_Reader_124 (xm_obj (show xYf 11 = some (sReader 12 13) from rfl)) rfl rfl (Nat.le_of_ble_eq_true rfl) (xRok (d' := d - 1) (by omega) (by decide)) ⟨Nat.le_refl _, Nat.le_refl _⟩ d_Reader_advance_90 rfl ?_
            refine X_goto (tgt := 122) d_Reader_advance_93 (by decide) ?_
            exact X_vret rfl rfl (xle_of (congrArg (xm G xYf) (by simp [vAd, vNx, vTk, vNu, nI_1, c_7, Int32.not_lt.mpr c_7, c_8, c_9]))) d_Reader_advance_122
        ·
          refine X_aload_n d_Reader_advance_75 rfl rfl ?_
          refine X_callVv (rest := []) (c_Reader_takeWord l G nn (by omega) I f n h2 hn q (by omega) (nI q) tk nu op fa) lk_Reader_takeWord ml_Reader_118 (xm_obj (show xYf 11 = some (sReader 12 13) from rfl)) rfl rfl (Nat.le_of_ble_eq_true rfl) (xRok (d' := d - 1) (by omega) (by decide)) ⟨Nat.le_refl _, Nat.le_refl _⟩ d_Reader_advance_76 rfl ?_
          refine X_goto (tgt := 122) d_Reader_advance_79 (by decide) ?_
          exact X_vret rfl rfl (xle_of (congrArg (xm G xYf) (by simp [vAd, vNx, vTk, vNu, nI_1, c_7, Int32.not_lt.mpr c_7, c_8]))) d_Reader_advance_122
      ·
        refine X_aload_n d_Reader_advance_60 rfl rfl ?_
        refine X_iconst (v := 0) d_Reader_advance_61 rfl ?_
        refine X_putI fp_Reader_74 (show xYf 11 = some (sReader 12 13) from rfl) rfl d_Reader_advance_62 ?_
        rw [xw_rec]
        rw [rQs_5]
        refine X_goto (tgt := 122) d_Reader_advance_65 (by decide) ?_
        exact X_vret rfl rfl (xle_of (congrArg (xm G xYf) (by simp [vAd, vNx, vTk, vNu, nI_1, c_7, Int32.not_le.mp c_7]))) d_Reader_advance_122
    ·
      refine X_aload_n d_Reader_advance_23 rfl rfl ?_
      refine X_dup d_Reader_advance_24 rfl ?_
      refine X_getI (v := nI (p + i)) fg_Reader_44 (show xYf 11 = some (sReader 12 13) from rfl) rfl ((congrFun (xup_s _ _ _) _).trans (rQ_3 _ _ _ _ _ _ _)) d_Reader_advance_25 ?_
      refine X_iconst (v := 1) d_Reader_advance_28 rfl ?_
      refine X_iadd d_Reader_advance_29 ?_
      refine X_putI fp_Reader_44 (show xYf 11 = some (sReader 12 13) from rfl) rfl d_Reader_advance_30 ?_
      rw [xw_rec]
      rw [rQs_3]
      refine X_iinc d_Reader_advance_33 rfl (v := (nI i) + 1) rfl (by decide) [1, 0] (L' := [(0, .ref (xg G 11)), (1, .int ((nI i) + 1))]) rfl ?_
      refine X_goto (tgt := 2) d_Reader_advance_36 (by decide) ?_
      have hlt : i < 160 := nI_more hi (by decide) c_1
      have key := ih hlt (rRun_s hlt hr c_6)
      unfold Q_Reader_advance at key
      rw [← Nat.add_assoc] at key
      rw [nI_1, nI_1]
      exact key
theorem c_Reader_advance (l : Launch) (G : xG) {d : Nat} (nn : Nat) (hd : 3 ≤ d) (I : xI) (f : Nat → Int32) (n : Nat) (h2 : f 2 = nI n) (hn : n ≤ 160) (p : Nat) (hp : p ≤ 160) (hq : rRun bBlank (I 12) n 160 p ≤ 160) (pl tk nu op fa : Int32) : XM l G d y_Reader_advance b_Reader_advance 2 (none) 0 0 xK0 [.ref (xg G 11)] nn (xm G xYf (xup I 11 (rQ f (nI p) pl tk nu op fa))) (none) nn (xm G xYf (xup I 11 (vAd f (I 12) n (rRun bBlank (I 12) n 160 p) nu op fa))) := by
  refine XM.of (by decide) (Nat.le_of_ble_eq_true rfl) (L := [(0, .ref (xg G 11))]) rfl ?_
  refine X_iconst (v := 0) d_Reader_advance_0 rfl ?_
  refine X_istore_n d_Reader_advance_1 rfl (by decide) [1, 0] (L' := [(0, .ref (xg G 11)), (1, .int 0)]) rfl ?_
  have hx := xloop (Q := fun i => rRun bBlank (I 12) n (160 - i) (p + i) = rRun bBlank (I 12) n 160 p → Q_Reader_advance l G d nn I f n p (rRun bBlank (I 12) n 160 p) pl tk nu op fa i) (T := 160) (fun i hi ih => w_Reader_advance l G nn (by omega) I f n h2 hn p _ hp hq pl tk nu op fa i hi ih) 0 (Nat.zero_le _) rfl
  unfold Q_Reader_advance at hx
  exact hx
