def mDig (v : Int32) : Bool := xin v 11 99 && decide (0 < v - v / 10 * 10)
def mOdd (v : Int32) : Bool := xin v 1 1009 && decide (0 < v - v / 10 * 10)
def mRace (n sp fw what : Int32) : Bool := xin n (-40) 40 && mDig sp && xin fw 1000 540999 && xin what 0 1
def mNum (k : Int32) : Int32 := if k - k / 2 * 2 = 1 then (k + 1) / 2 else -(k / 2)
def mUnd (k o : Int32) : Bool := decide (o = 0) || decide (k = o) || (decide (o = 1) && decide (k = 3)) || (decide (o = 2) && decide (k = 4))
theorem c_Model_in (l : Launch) (G : xG) {d : Nat} (nn : Nat) (M : xM) (hd : 1 ≤ d) (v low high : Int32) : XM l G d y_Model_in b_Model_in 3 (some .boolean) 0 0 xK0 [.int v, .int low, .int high] nn M (some (.int (xb (xin v low high)))) nn M := by
  refine XM.of (by decide) (Nat.le_of_ble_eq_true rfl) (L := [(0, .int v), (1, .int low), (2, .int high)]) rfl ?_
  refine X_iload_n d_Model_in_0 rfl rfl ?_
  refine X_iload_n d_Model_in_1 rfl rfl ?_
  refine X_icmp_lt (tgt := 14) d_Model_in_2 (by decide) (fun c_1 => ?_) (fun c_1 => ?_)
  ·
    refine X_iconst (v := 0) d_Model_in_14 rfl ?_
    exact X_zret rfl rfl (congrArg (fun q => some (Value.int q)) (by simp [xb, xin, c_1, Int32.not_le.mpr c_1])) (xle_rf _) d_Model_in_15
  ·
    refine X_iload_n d_Model_in_5 rfl rfl ?_
    refine X_iload_n d_Model_in_6 rfl rfl ?_
    refine X_icmp_gt (tgt := 14) d_Model_in_7 (by decide) (fun c_2 => ?_) (fun c_2 => ?_)
    ·
      refine X_iconst (v := 0) d_Model_in_14 rfl ?_
      exact X_zret rfl rfl (congrArg (fun q => some (Value.int q)) (by simp [xb, xin, c_1, Int32.not_lt.mp c_1, c_2, Int32.not_le.mpr c_2])) (xle_rf _) d_Model_in_15
    ·
      refine X_iconst (v := 1) d_Model_in_10 rfl ?_
      refine X_goto (tgt := 15) d_Model_in_11 (by decide) ?_
      exact X_zret rfl rfl (congrArg (fun q => some (Value.int q)) (by simp [xb, xin, c_1, Int32.not_lt.mp c_1, c_2, Int32.not_lt.mp c_2])) (xle_rf _) d_Model_in_15
theorem c_Model_within (l : Launch) (G : xG) {d : Nat} (nn : Nat) (M : xM) (hd : 1 ≤ d) (v low high : Int32) : XM l G d y_Model_within b_Model_within 3 (some .int) 0 0 xK0 [.int v, .int low, .int high] nn M (some (.int (xbd v low high))) nn M := by
  refine XM.of (by decide) (Nat.le_of_ble_eq_true rfl) (L := [(0, .int v), (1, .int low), (2, .int high)]) rfl ?_
  refine X_iload_n d_Model_within_0 rfl rfl ?_
  refine X_iload_n d_Model_within_1 rfl rfl ?_
  refine X_icmp_ge (tgt := 9) d_Model_within_2 (by decide) (fun c_1 => ?_) (fun c_1 => ?_)
  ·
    refine X_iload_n d_Model_within_9 rfl rfl ?_
    refine X_iload_n d_Model_within_10 rfl rfl ?_
    refine X_icmp_le (tgt := 18) d_Model_within_11 (by decide) (fun c_2 => ?_) (fun c_2 => ?_)
    ·
      refine X_iload_n d_Model_within_18 rfl rfl ?_
      exact X_iret rfl (congrArg (fun q => some (Value.int q)) (by unfold xbd; grind)) (xle_rf _) d_Model_within_19
    ·
      refine X_iload_n d_Model_within_14 rfl rfl ?_
      refine X_goto (tgt := 19) d_Model_within_15 (by decide) ?_
      exact X_iret rfl (congrArg (fun q => some (Value.int q)) (by unfold xbd; grind)) (xle_rf _) d_Model_within_19
  ·
    refine X_iload_n d_Model_within_5 rfl rfl ?_
    refine X_goto (tgt := 19) d_Model_within_6 (by decide) ?_
    exact X_iret rfl (congrArg (fun q => some (Value.int q)) (by unfold xbd; grind)) (xle_rf _) d_Model_within_19
theorem c_Model_size0 (l : Launch) (G : xG) {d : Nat} (nn : Nat) (M : xM) (hd : 1 ≤ d) (v : Int32) : XM l G d y_Model_size0 b_Model_size0 1 (some .int) 0 0 xK0 [.int v] nn M (some (.int (xabs v))) nn M := by
  refine XM.of (by decide) (Nat.le_of_ble_eq_true rfl) (L := [(0, .int v)]) rfl ?_
  refine X_iload_n d_Model_size0_0 rfl rfl ?_
  refine X_if_ge (tgt := 9) d_Model_size0_1 (by decide) (fun c_1 => ?_) (fun c_1 => ?_)
  ·
    refine X_iload_n d_Model_size0_9 rfl rfl ?_
    exact X_iret rfl (congrArg (fun q => some (Value.int q)) (by unfold xabs; grind)) (xle_rf _) d_Model_size0_10
  ·
    refine X_iload_n d_Model_size0_4 rfl rfl ?_
    refine X_ineg d_Model_size0_5 ?_
    refine X_goto (tgt := 10) d_Model_size0_6 (by decide) ?_
    exact X_iret rfl (congrArg (fun q => some (Value.int q)) (by unfold xabs; grind)) (xle_rf _) d_Model_size0_10
theorem c_Model_isByte (l : Launch) (G : xG) {d : Nat} (nn : Nat) (M : xM) (hd : 2 ≤ d) (v : Int32) : XM l G d y_Model_isByte b_Model_isByte 1 (some .boolean) 0 0 xK0 [.int v] nn M (some (.int (xb (xin v 0 255)))) nn M := by
  refine XM.of (by decide) (Nat.le_of_ble_eq_true rfl) (L := [(0, .int v)]) rfl ?_
  refine X_iload_n d_Model_isByte_0 rfl rfl ?_
  refine X_iconst (v := 0) d_Model_isByte_1 rfl ?_
  refine X_sipush (v := 255) d_Model_isByte_2 rfl ?_
  refine X_callS (v := .int (xb (xin v 0 255))) (rest := []) (c_Model_in l G nn _ (by omega) v 0 255) lk_Model_in ml_Model_66 rfl (Nat.le_of_ble_eq_true rfl) (xRok (d' := d - 1) (by omega) (by decide)) ⟨Nat.le_refl _, Nat.le_refl _⟩ d_Model_isByte_5 rfl ?_
  exact X_zret rfl (xb_nar _) (congrArg (fun q => some (Value.int q)) (by simp [xin])) (xle_rf _) d_Model_isByte_8
theorem c_Model_isTurned (l : Launch) (G : xG) {d : Nat} (nn : Nat) (M : xM) (hd : 2 ≤ d) (v : Int32) : XM l G d y_Model_isTurned b_Model_isTurned 1 (some .boolean) 0 0 xK0 [.int v] nn M (some (.int (xb (xin v (-40) 40)))) nn M := by
  refine XM.of (by decide) (Nat.le_of_ble_eq_true rfl) (L := [(0, .int v)]) rfl ?_
  refine X_iload_n d_Model_isTurned_0 rfl rfl ?_
  refine X_bipush (v := -40) d_Model_isTurned_1 rfl ?_
  refine X_bipush (v := 40) d_Model_isTurned_3 rfl ?_
  refine X_callS (v := .int (xb (xin v (-40) 40))) (rest := []) (c_Model_in l G nn _ (by omega) v (-40) 40) lk_Model_in ml_Model_66 rfl (Nat.le_of_ble_eq_true rfl) (xRok (d' := d - 1) (by omega) (by decide)) ⟨Nat.le_refl _, Nat.le_refl _⟩ d_Model_isTurned_5 rfl ?_
  exact X_zret rfl (xb_nar _) (congrArg (fun q => some (Value.int q)) (by simp [xin])) (xle_rf _) d_Model_isTurned_8
theorem c_Model_areDigits (l : Launch) (G : xG) {d : Nat} (nn : Nat) (M : xM) (hd : 2 ≤ d) (v : Int32) : XM l G d y_Model_areDigits b_Model_areDigits 1 (some .boolean) 0 0 xK0 [.int v] nn M (some (.int (xb (mDig v)))) nn M := by
  refine XM.of (by decide) (Nat.le_of_ble_eq_true rfl) (L := [(0, .int v)]) rfl ?_
  refine X_iload_n d_Model_areDigits_0 rfl rfl ?_
  refine X_bipush (v := 11) d_Model_areDigits_1 rfl ?_
  refine X_bipush (v := 99) d_Model_areDigits_3 rfl ?_
  refine X_callS (v := .int (xb (xin v 11 99))) (rest := []) (c_Model_in l G nn _ (by omega) v 11 99) lk_Model_in ml_Model_66 rfl (Nat.le_of_ble_eq_true rfl) (xRok (d' := d - 1) (by omega) (by decide)) ⟨Nat.le_refl _, Nat.le_refl _⟩ d_Model_areDigits_5 rfl ?_
  refine X_ifb_eq (tgt := 22) d_Model_areDigits_8 (by decide) (fun c_1 => ?_) (fun c_1 => ?_)
  ·
    refine X_iconst (v := 0) d_Model_areDigits_22 rfl ?_
    exact X_zret rfl rfl (congrArg (fun q => some (Value.int q)) (by simp [xb, mDig, c_1])) (xle_rf _) d_Model_areDigits_23
  ·
    refine X_iload_n d_Model_areDigits_11 rfl rfl ?_
    refine X_bipush (v := 10) d_Model_areDigits_12 rfl ?_
    refine X_irem d_Model_areDigits_14 (by decide) ?_
    refine X_if_le (tgt := 22) d_Model_areDigits_15 (by decide) (fun c_2 => ?_) (fun c_2 => ?_)
    ·
      refine X_iconst (v := 0) d_Model_areDigits_22 rfl ?_
      exact X_zret rfl rfl (congrArg (fun q => some (Value.int q)) (by simp [xb, mDig, c_1, c_2, Int32.not_lt.mpr c_2])) (xle_rf _) d_Model_areDigits_23
    ·
      refine X_iconst (v := 1) d_Model_areDigits_18 rfl ?_
      refine X_goto (tgt := 23) d_Model_areDigits_19 (by decide) ?_
      exact X_zret rfl rfl (congrArg (fun q => some (Value.int q)) (by simp [xb, mDig, c_1, c_2, Int32.not_le.mp c_2])) (xle_rf _) d_Model_areDigits_23
theorem c_Model_areOdds (l : Launch) (G : xG) {d : Nat} (nn : Nat) (M : xM) (hd : 2 ≤ d) (v : Int32) : XM l G d y_Model_areOdds b_Model_areOdds 1 (some .boolean) 0 0 xK0 [.int v] nn M (some (.int (xb (mOdd v)))) nn M := by
  refine XM.of (by decide) (Nat.le_of_ble_eq_true rfl) (L := [(0, .int v)]) rfl ?_
  refine X_iload_n d_Model_areOdds_0 rfl rfl ?_
  refine X_iconst (v := 1) d_Model_areOdds_1 rfl ?_
  refine X_sipush (v := 1009) d_Model_areOdds_2 rfl ?_
  refine X_callS (v := .int (xb (xin v 1 1009))) (rest := []) (c_Model_in l G nn _ (by omega) v 1 1009) lk_Model_in ml_Model_66 rfl (Nat.le_of_ble_eq_true rfl) (xRok (d' := d - 1) (by omega) (by decide)) ⟨Nat.le_refl _, Nat.le_refl _⟩ d_Model_areOdds_5 rfl ?_
  refine X_ifb_eq (tgt := 22) d_Model_areOdds_8 (by decide) (fun c_1 => ?_) (fun c_1 => ?_)
  ·
    refine X_iconst (v := 0) d_Model_areOdds_22 rfl ?_
    exact X_zret rfl rfl (congrArg (fun q => some (Value.int q)) (by simp [xb, mOdd, c_1])) (xle_rf _) d_Model_areOdds_23
  ·
    refine X_iload_n d_Model_areOdds_11 rfl rfl ?_
    refine X_bipush (v := 10) d_Model_areOdds_12 rfl ?_
    refine X_irem d_Model_areOdds_14 (by decide) ?_
    refine X_if_le (tgt := 22) d_Model_areOdds_15 (by decide) (fun c_2 => ?_) (fun c_2 => ?_)
    ·
      refine X_iconst (v := 0) d_Model_areOdds_22 rfl ?_
      exact X_zret rfl rfl (congrArg (fun q => some (Value.int q)) (by simp [xb, mOdd, c_1, c_2, Int32.not_lt.mpr c_2])) (xle_rf _) d_Model_areOdds_23
    ·
      refine X_iconst (v := 1) d_Model_areOdds_18 rfl ?_
      refine X_goto (tgt := 23) d_Model_areOdds_19 (by decide) ?_
      exact X_zret rfl rfl (congrArg (fun q => some (Value.int q)) (by simp [xb, mOdd, c_1, c_2, Int32.not_le.mp c_2])) (xle_rf _) d_Model_areOdds_23
theorem c_Model_isRace (l : Launch) (G : xG) {d : Nat} (nn : Nat) (M : xM) (hd : 3 ≤ d) (n sp fw what : Int32) : XM l G d y_Model_isRace b_Model_isRace 4 (some .boolean) 0 0 xK0 [.int n, .int sp, .int fw, .int what] nn M (some (.int (xb (mRace n sp fw what)))) nn M := by
  refine XM.of (by decide) (Nat.le_of_ble_eq_true rfl) (L := [(0, .int n), (1, .int sp), (2, .int fw), (3, .int what)]) rfl ?_
  refine X_iload_n d_Model_isRace_0 rfl rfl ?_
  refine X_callS (v := .int (xb (xin n (-40) 40))) (rest := []) (c_Model_isTurned l G nn _ (by omega) n) lk_Model_isTurned ml_Model_193 rfl (Nat.le_of_ble_eq_true rfl) (xRok (d' := d - 1) (by omega) (by decide)) ⟨Nat.le_refl _, Nat.le_refl _⟩ d_Model_isRace_1 rfl ?_
  refine X_ifb_eq (tgt := 39) d_Model_isRace_4 (by decide) (fun c_1 => ?_) (fun c_1 => ?_)
  ·
    refine X_iconst (v := 0) d_Model_isRace_39 rfl ?_
    exact X_zret rfl rfl (congrArg (fun q => some (Value.int q)) (by simp [xb, mRace, c_1])) (xle_rf _) d_Model_isRace_40
  ·
    refine X_iload_n d_Model_isRace_7 rfl rfl ?_
    refine X_callS (v := .int (xb (mDig sp))) (rest := []) (c_Model_areDigits l G nn _ (by omega) sp) lk_Model_areDigits ml_Model_215 rfl (Nat.le_of_ble_eq_true rfl) (xRok (d' := d - 1) (by omega) (by decide)) ⟨Nat.le_refl _, Nat.le_refl _⟩ d_Model_isRace_8 rfl ?_
    refine X_ifb_eq (tgt := 39) d_Model_isRace_11 (by decide) (fun c_2 => ?_) (fun c_2 => ?_)
    ·
      refine X_iconst (v := 0) d_Model_isRace_39 rfl ?_
      exact X_zret rfl rfl (congrArg (fun q => some (Value.int q)) (by simp [xb, mRace, c_1, c_2])) (xle_rf _) d_Model_isRace_40
    ·
      refine X_iload_n d_Model_isRace_14 rfl rfl ?_
      refine X_sipush (v := 1000) d_Model_isRace_15 rfl ?_
      refine X_ldc cs_Model_222 d_Model_isRace_18 ?_
      refine X_callS (v := .int (xb (xin fw 1000 540999))) (rest := []) (c_Model_in l G nn _ (by omega) fw 1000 540999) lk_Model_in ml_Model_66 rfl (Nat.le_of_ble_eq_true rfl) (xRok (d' := d - 1) (by omega) (by decide)) ⟨Nat.le_refl _, Nat.le_refl _⟩ d_Model_isRace_20 rfl ?_
      refine X_ifb_eq (tgt := 39) d_Model_isRace_23 (by decide) (fun c_3 => ?_) (fun c_3 => ?_)
      ·
        refine X_iconst (v := 0) d_Model_isRace_39 rfl ?_
        exact X_zret rfl rfl (congrArg (fun q => some (Value.int q)) (by simp [xb, mRace, c_1, c_2, c_3])) (xle_rf _) d_Model_isRace_40
      ·
        refine X_iload_n d_Model_isRace_26 rfl rfl ?_
        refine X_iconst (v := 0) d_Model_isRace_27 rfl ?_
        refine X_iconst (v := 1) d_Model_isRace_28 rfl ?_
        refine X_callS (v := .int (xb (xin what 0 1))) (rest := []) (c_Model_in l G nn _ (by omega) what 0 1) lk_Model_in ml_Model_66 rfl (Nat.le_of_ble_eq_true rfl) (xRok (d' := d - 1) (by omega) (by decide)) ⟨Nat.le_refl _, Nat.le_refl _⟩ d_Model_isRace_29 rfl ?_
        refine X_ifb_eq (tgt := 39) d_Model_isRace_32 (by decide) (fun c_4 => ?_) (fun c_4 => ?_)
        ·
          refine X_iconst (v := 0) d_Model_isRace_39 rfl ?_
          exact X_zret rfl rfl (congrArg (fun q => some (Value.int q)) (by simp [xb, mRace, c_1, c_2, c_3, c_4])) (xle_rf _) d_Model_isRace_40
        ·
          refine X_iconst (v := 1) d_Model_isRace_35 rfl ?_
          refine X_goto (tgt := 40) d_Model_isRace_36 (by decide) ?_
          exact X_zret rfl rfl (congrArg (fun q => some (Value.int q)) (by simp [xb, mRace, c_1, c_2, c_3, c_4])) (xle_rf _) d_Model_isRace_40
theorem c_Model_byNumber (l : Launch) (G : xG) {d : Nat} (nn : Nat) (M : xM) (hd : 1 ≤ d) (k : Int32) : XM l G d y_Model_byNumber b_Model_byNumber 1 (some .int) 0 0 xK0 [.int k] nn M (some (.int (mNum k))) nn M := by
  refine XM.of (by decide) (Nat.le_of_ble_eq_true rfl) (L := [(0, .int k)]) rfl ?_
  refine X_iload_n d_Model_byNumber_0 rfl rfl ?_
  refine X_iconst (v := 2) d_Model_byNumber_1 rfl ?_
  refine X_irem d_Model_byNumber_2 (by decide) ?_
  refine X_iconst (v := 1) d_Model_byNumber_3 rfl ?_
  refine X_icmp_ne (tgt := 15) d_Model_byNumber_4 (by decide) (fun c_1 => ?_) (fun c_1 => ?_)
  ·
    refine X_iload_n d_Model_byNumber_15 rfl rfl ?_
    refine X_iconst (v := 2) d_Model_byNumber_16 rfl ?_
    refine X_idiv d_Model_byNumber_17 (by decide) ?_
    refine X_ineg d_Model_byNumber_18 ?_
    exact X_iret rfl (congrArg (fun q => some (Value.int q)) (by simp [mNum, c_1])) (xle_rf _) d_Model_byNumber_19
  ·
    refine X_iload_n d_Model_byNumber_7 rfl rfl ?_
    refine X_iconst (v := 1) d_Model_byNumber_8 rfl ?_
    refine X_iadd d_Model_byNumber_9 ?_
    refine X_iconst (v := 2) d_Model_byNumber_10 rfl ?_
    refine X_idiv d_Model_byNumber_11 (by decide) ?_
    refine X_goto (tgt := 19) d_Model_byNumber_12 (by decide) ?_
    exact X_iret rfl (congrArg (fun q => some (Value.int q)) (by simp [mNum, c_1])) (xle_rf _) d_Model_byNumber_19
theorem c_Model_isUnder (l : Launch) (G : xG) {d : Nat} (nn : Nat) (M : xM) (hd : 1 ≤ d) (k o : Int32) : XM l G d y_Model_isUnder b_Model_isUnder 2 (some .boolean) 0 0 xK0 [.int k, .int o] nn M (some (.int (xb (mUnd k o)))) nn M := by
  refine XM.of (by decide) (Nat.le_of_ble_eq_true rfl) (L := [(0, .int k), (1, .int o)]) rfl ?_
  refine X_iload_n d_Model_isUnder_0 rfl rfl ?_
  refine X_if_eq (tgt := 29) d_Model_isUnder_1 (by decide) (fun c_1 => ?_) (fun c_1 => ?_)
  ·
    refine X_iconst (v := 1) d_Model_isUnder_29 rfl ?_
    refine X_goto (tgt := 34) d_Model_isUnder_30 (by decide) ?_
    exact X_zret rfl rfl (congrArg (fun q => some (Value.int q)) (by rw [show mUnd k o = true from by simp [mUnd]; grind]; rfl)) (xle_rf _) d_Model_isUnder_34
  ·
    refine X_iload_n d_Model_isUnder_4 rfl rfl ?_
    refine X_iload_n d_Model_isUnder_5 rfl rfl ?_
    refine X_icmp_eq (tgt := 29) d_Model_isUnder_6 (by decide) (fun c_2 => ?_) (fun c_2 => ?_)
    ·
      refine X_iconst (v := 1) d_Model_isUnder_29 rfl ?_
      refine X_goto (tgt := 34) d_Model_isUnder_30 (by decide) ?_
      exact X_zret rfl rfl (congrArg (fun q => some (Value.int q)) (by rw [show mUnd k o = true from by simp [mUnd]; grind]; rfl)) (xle_rf _) d_Model_isUnder_34
    ·
      refine X_iload_n d_Model_isUnder_9 rfl rfl ?_
      refine X_iconst (v := 1) d_Model_isUnder_10 rfl ?_
      refine X_icmp_ne (tgt := 19) d_Model_isUnder_11 (by decide) (fun c_3 => ?_) (fun c_3 => ?_)
      ·
        refine X_iload_n d_Model_isUnder_19 rfl rfl ?_
        refine X_iconst (v := 2) d_Model_isUnder_20 rfl ?_
        refine X_icmp_ne (tgt := 33) d_Model_isUnder_21 (by decide) (fun c_4 => ?_) (fun c_4 => ?_)
        ·
          refine X_iconst (v := 0) d_Model_isUnder_33 rfl ?_
          exact X_zret rfl rfl (congrArg (fun q => some (Value.int q)) (by rw [show mUnd k o = false from by simp [mUnd]; grind]; rfl)) (xle_rf _) d_Model_isUnder_34
        ·
          refine X_iload_n d_Model_isUnder_24 rfl rfl ?_
          refine X_iconst (v := 4) d_Model_isUnder_25 rfl ?_
          refine X_icmp_ne (tgt := 33) d_Model_isUnder_26 (by decide) (fun c_5 => ?_) (fun c_5 => ?_)
          ·
            refine X_iconst (v := 0) d_Model_isUnder_33 rfl ?_
            exact X_zret rfl rfl (congrArg (fun q => some (Value.int q)) (by rw [show mUnd k o = false from by simp [mUnd]; grind]; rfl)) (xle_rf _) d_Model_isUnder_34
          ·
            refine X_iconst (v := 1) d_Model_isUnder_29 rfl ?_
            refine X_goto (tgt := 34) d_Model_isUnder_30 (by decide) ?_
            exact X_zret rfl rfl (congrArg (fun q => some (Value.int q)) (by rw [show mUnd k o = true from by simp [mUnd]; grind]; rfl)) (xle_rf _) d_Model_isUnder_34
      ·
        refine X_iload_n d_Model_isUnder_14 rfl rfl ?_
        refine X_iconst (v := 3) d_Model_isUnder_15 rfl ?_
        refine X_icmp_eq (tgt := 29) d_Model_isUnder_16 (by decide) (fun c_6 => ?_) (fun c_6 => ?_)
        ·
          refine X_iconst (v := 1) d_Model_isUnder_29 rfl ?_
          refine X_goto (tgt := 34) d_Model_isUnder_30 (by decide) ?_
          exact X_zret rfl rfl (congrArg (fun q => some (Value.int q)) (by rw [show mUnd k o = true from by simp [mUnd]; grind]; rfl)) (xle_rf _) d_Model_isUnder_34
        ·
          refine X_iload_n d_Model_isUnder_19 rfl rfl ?_
          refine X_iconst (v := 2) d_Model_isUnder_20 rfl ?_
          refine X_icmp_ne (tgt := 33) d_Model_isUnder_21 (by decide) (fun c_7 => ?_) (fun c_7 => ?_)
          ·
            refine X_iconst (v := 0) d_Model_isUnder_33 rfl ?_
            exact X_zret rfl rfl (congrArg (fun q => some (Value.int q)) (by rw [show mUnd k o = false from by simp [mUnd]; grind]; rfl)) (xle_rf _) d_Model_isUnder_34
          ·
            refine X_iload_n d_Model_isUnder_24 rfl rfl ?_
            refine X_iconst (v := 4) d_Model_isUnder_25 rfl ?_
            refine X_icmp_ne (tgt := 33) d_Model_isUnder_26 (by decide) (fun c_8 => ?_) (fun c_8 => ?_)
            ·
              refine X_iconst (v := 0) d_Model_isUnder_33 rfl ?_
              exact X_zret rfl rfl (congrArg (fun q => some (Value.int q)) (by rw [show mUnd k o = false from by simp [mUnd]; grind]; rfl)) (xle_rf _) d_Model_isUnder_34
            ·
              refine X_iconst (v := 1) d_Model_isUnder_29 rfl ?_
              refine X_goto (tgt := 34) d_Model_isUnder_30 (by decide) ?_
              exact X_zret rfl rfl (congrArg (fun q => some (Value.int q)) (by rw [show mUnd k o = true from by simp [mUnd]; grind]; rfl)) (xle_rf _) d_Model_isUnder_34
theorem c_Model_two (l : Launch) (G : xG) {d : Nat} (nn : Nat) (M : xM) (hd : 1 ≤ d) (c a b : Int32) : XM l G d y_Model_two b_Model_two 3 (some .int) 0 0 xK0 [.int c, .int a, .int b] nn M (some (.int (xtwo c a b))) nn M := by
  refine XM.of (by decide) (Nat.le_of_ble_eq_true rfl) (L := [(0, .int c), (1, .int a), (2, .int b)]) rfl ?_
  refine X_iload_n d_Model_two_0 rfl rfl ?_
  by_cases c_1 : c = 11
  ·
    refine X_tableIn (tgt := 44) d_Model_two_1 (by rw [c_1]; decide) (by rw [c_1]; decide) (by rw [c_1]; rfl) (by decide) ?_
    refine X_iload_n d_Model_two_44 rfl rfl ?_
    refine X_if_ne (tgt := 52) d_Model_two_45 (by decide) (fun c_2 => ?_) (fun c_2 => ?_)
    ·
      refine X_iconst (v := 1) d_Model_two_52 rfl ?_
      refine X_goto (tgt := 57) d_Model_two_53 (by decide) ?_
      exact X_iret rfl (congrArg (fun q => some (Value.int q)) (by simp [xtwo, xb, c_1, c_2])) (xle_rf _) d_Model_two_57
    ·
      refine X_iload_n d_Model_two_48 rfl rfl ?_
      refine X_if_eq (tgt := 56) d_Model_two_49 (by decide) (fun c_3 => ?_) (fun c_3 => ?_)
      ·
        refine X_iconst (v := 0) d_Model_two_56 rfl ?_
        exact X_iret rfl (congrArg (fun q => some (Value.int q)) (by simp [xtwo, xb, c_1, c_2, c_3])) (xle_rf _) d_Model_two_57
      ·
        refine X_iconst (v := 1) d_Model_two_52 rfl ?_
        refine X_goto (tgt := 57) d_Model_two_53 (by decide) ?_
        exact X_iret rfl (congrArg (fun q => some (Value.int q)) (by simp [xtwo, xb, c_1, c_2, c_3])) (xle_rf _) d_Model_two_57
  by_cases c_4 : c = 12
  ·
    refine X_tableIn (tgt := 58) d_Model_two_1 (by rw [c_4]; decide) (by rw [c_4]; decide) (by rw [c_4]; rfl) (by decide) ?_
    refine X_iload_n d_Model_two_58 rfl rfl ?_
    refine X_if_eq (tgt := 70) d_Model_two_59 (by decide) (fun c_5 => ?_) (fun c_5 => ?_)
    ·
      refine X_iconst (v := 0) d_Model_two_70 rfl ?_
      exact X_iret rfl (congrArg (fun q => some (Value.int q)) (by simp [xtwo, xb, c_1, c_4, c_5])) (xle_rf _) d_Model_two_71
    ·
      refine X_iload_n d_Model_two_62 rfl rfl ?_
      refine X_if_eq (tgt := 70) d_Model_two_63 (by decide) (fun c_6 => ?_) (fun c_6 => ?_)
      ·
        refine X_iconst (v := 0) d_Model_two_70 rfl ?_
        exact X_iret rfl (congrArg (fun q => some (Value.int q)) (by simp [xtwo, xb, c_1, c_4, c_5, c_6])) (xle_rf _) d_Model_two_71
      ·
        refine X_iconst (v := 1) d_Model_two_66 rfl ?_
        refine X_goto (tgt := 71) d_Model_two_67 (by decide) ?_
        exact X_iret rfl (congrArg (fun q => some (Value.int q)) (by simp [xtwo, xb, c_1, c_4, c_5, c_6])) (xle_rf _) d_Model_two_71
  by_cases c_7 : c = 13
  ·
    refine X_tableIn (tgt := 102) d_Model_two_1 (by rw [c_7]; decide) (by rw [c_7]; decide) (by rw [c_7]; rfl) (by decide) ?_
    refine X_iload_n d_Model_two_102 rfl rfl ?_
    refine X_iload_n d_Model_two_103 rfl rfl ?_
    refine X_imul d_Model_two_104 ?_
    exact X_iret rfl (congrArg (fun q => some (Value.int q)) (by simp [xtwo, xb, c_1, c_4, c_7])) (xle_rf _) d_Model_two_105
  by_cases c_8 : c = 14
  ·
    refine X_tableIn (tgt := 72) d_Model_two_1 (by rw [c_8]; decide) (by rw [c_8]; decide) (by rw [c_8]; rfl) (by decide) ?_
    refine X_iload_n d_Model_two_72 rfl rfl ?_
    refine X_iload_n d_Model_two_73 rfl rfl ?_
    refine X_icmp_ge (tgt := 81) d_Model_two_74 (by decide) (fun c_9 => ?_) (fun c_9 => ?_)
    ·
      refine X_iconst (v := 0) d_Model_two_81 rfl ?_
      exact X_iret rfl (congrArg (fun q => some (Value.int q)) (by simp [xtwo, xb, c_1, c_4, c_7, c_8, c_9, Int32.not_lt.mpr c_9])) (xle_rf _) d_Model_two_82
    ·
      refine X_iconst (v := 1) d_Model_two_77 rfl ?_
      refine X_goto (tgt := 82) d_Model_two_78 (by decide) ?_
      exact X_iret rfl (congrArg (fun q => some (Value.int q)) (by simp [xtwo, xb, c_1, c_4, c_7, c_8, c_9, Int32.not_le.mp c_9])) (xle_rf _) d_Model_two_82
  by_cases c_10 : c = 15
  ·
    refine X_tableIn (tgt := 83) d_Model_two_1 (by rw [c_10]; decide) (by rw [c_10]; decide) (by rw [c_10]; rfl) (by decide) ?_
    refine X_iload_n d_Model_two_83 rfl rfl ?_
    refine X_iload_n d_Model_two_84 rfl rfl ?_
    refine X_icmp_ne (tgt := 92) d_Model_two_85 (by decide) (fun c_11 => ?_) (fun c_11 => ?_)
    ·
      refine X_iconst (v := 0) d_Model_two_92 rfl ?_
      exact X_iret rfl (congrArg (fun q => some (Value.int q)) (by simp [xtwo, xb, c_1, c_4, c_7, c_8, c_10, c_11])) (xle_rf _) d_Model_two_93
    ·
      refine X_iconst (v := 1) d_Model_two_88 rfl ?_
      refine X_goto (tgt := 93) d_Model_two_89 (by decide) ?_
      exact X_iret rfl (congrArg (fun q => some (Value.int q)) (by simp [xtwo, xb, c_1, c_4, c_7, c_8, c_10, c_11])) (xle_rf _) d_Model_two_93
  by_cases c_12 : c = 16
  ·
    refine X_tableIn (tgt := 94) d_Model_two_1 (by rw [c_12]; decide) (by rw [c_12]; decide) (by rw [c_12]; rfl) (by decide) ?_
    refine X_iload_n d_Model_two_94 rfl rfl ?_
    refine X_iload_n d_Model_two_95 rfl rfl ?_
    refine X_iadd d_Model_two_96 ?_
    exact X_iret rfl (congrArg (fun q => some (Value.int q)) (by simp [xtwo, xb, c_1, c_4, c_7, c_8, c_10, c_12])) (xle_rf _) d_Model_two_97
  by_cases c_13 : c = 17
  ·
    refine X_tableIn (tgt := 98) d_Model_two_1 (by rw [c_13]; decide) (by rw [c_13]; decide) (by rw [c_13]; rfl) (by decide) ?_
    refine X_iload_n d_Model_two_98 rfl rfl ?_
    refine X_iload_n d_Model_two_99 rfl rfl ?_
    refine X_isub d_Model_two_100 ?_
    exact X_iret rfl (congrArg (fun q => some (Value.int q)) (by simp [xtwo, xb, c_1, c_4, c_7, c_8, c_10, c_12, c_13])) (xle_rf _) d_Model_two_101
  refine X_tableOut (tgt := 102) d_Model_two_1 (xtout c (11) (17) (by decide) (by intro q h1 h2; have hq : q = 11 ∨ q = 12 ∨ q = 13 ∨ q = 14 ∨ q = 15 ∨ q = 16 ∨ q = 17 := (by omega); rcases hq with rfl | rfl | rfl | rfl | rfl | rfl | rfl <;> first | exact c_1 | exact c_4 | exact c_7 | exact c_8 | exact c_10 | exact c_12 | exact c_13)) (by decide) ?_
  refine X_iload_n d_Model_two_102 rfl rfl ?_
  refine X_iload_n d_Model_two_103 rfl rfl ?_
  refine X_imul d_Model_two_104 ?_
  exact X_iret rfl (congrArg (fun q => some (Value.int q)) (by simp [xtwo, xb, c_1, c_4, c_7, c_8, c_10, c_12, c_13])) (xle_rf _) d_Model_two_105
