theorem c_X_within (l : Launch) (G : xG) {d : Nat} (nn : Nat) (M : xM) (hd : 1 ≤ d) (v low high : Int32) : XM l G d y_X_within b_X_within 3 (some .boolean) 0 0 xK0 [.int v, .int low, .int high] nn M (some (.int (xb (xin v low high)))) nn M := by
  refine XM.of (by decide) (Nat.le_of_ble_eq_true rfl) (L := [(0, .int v), (1, .int low), (2, .int high)]) rfl ?_
  refine X_iload_n d_X_within_0 rfl rfl ?_
  refine X_iload_n d_X_within_1 rfl rfl ?_
  refine X_icmp_lt (tgt := 14) d_X_within_2 (by decide) (fun c_1 => ?_) (fun c_1 => ?_)
  ·
    refine X_iconst (v := 0) d_X_within_14 rfl ?_
    exact X_zret rfl rfl (congrArg (fun q => some (Value.int q)) (by simp [xb, xin, c_1, Int32.not_le.mpr c_1])) (xle_rf _) d_X_within_15
  ·
    refine X_iload_n d_X_within_5 rfl rfl ?_
    refine X_iload_n d_X_within_6 rfl rfl ?_
    refine X_icmp_gt (tgt := 14) d_X_within_7 (by decide) (fun c_2 => ?_) (fun c_2 => ?_)
    ·
      refine X_iconst (v := 0) d_X_within_14 rfl ?_
      exact X_zret rfl rfl (congrArg (fun q => some (Value.int q)) (by simp [xb, xin, c_1, Int32.not_lt.mp c_1, c_2, Int32.not_le.mpr c_2])) (xle_rf _) d_X_within_15
    ·
      refine X_iconst (v := 1) d_X_within_10 rfl ?_
      refine X_goto (tgt := 15) d_X_within_11 (by decide) ?_
      exact X_zret rfl rfl (congrArg (fun q => some (Value.int q)) (by simp [xb, xin, c_1, Int32.not_lt.mp c_1, c_2, Int32.not_lt.mp c_2])) (xle_rf _) d_X_within_15
theorem c_X_isByte (l : Launch) (G : xG) {d : Nat} (nn : Nat) (M : xM) (hd : 2 ≤ d) (v : Int32) : XM l G d y_X_isByte b_X_isByte 1 (some .boolean) 0 0 xK0 [.int v] nn M (some (.int (xb (xin v 0 255)))) nn M := by
  refine XM.of (by decide) (Nat.le_of_ble_eq_true rfl) (L := [(0, .int v)]) rfl ?_
  refine X_iload_n d_X_isByte_0 rfl rfl ?_
  refine X_iconst (v := 0) d_X_isByte_1 rfl ?_
  refine X_sipush (v := 255) d_X_isByte_2 rfl ?_
  refine X_callS (v := .int (xb (xin v 0 255))) (rest := []) (c_X_within l G nn _ (by omega) v 0 255) lk_X_within ml_X_105 rfl (Nat.le_of_ble_eq_true rfl) (xRok (d' := d - 1) (by omega) (by decide)) ⟨Nat.le_refl _, Nat.le_refl _⟩ d_X_isByte_5 rfl ?_
  exact X_zret rfl (xb_nar _) (congrArg (fun q => some (Value.int q)) (by simp [xin])) (xle_rf _) d_X_isByte_8
theorem c_X_isKind (l : Launch) (G : xG) {d : Nat} (nn : Nat) (M : xM) (hd : 2 ≤ d) (v : Int32) : XM l G d y_X_isKind b_X_isKind 1 (some .boolean) 0 0 xK0 [.int v] nn M (some (.int (xb (xin v 0 5)))) nn M := by
  refine XM.of (by decide) (Nat.le_of_ble_eq_true rfl) (L := [(0, .int v)]) rfl ?_
  refine X_iload_n d_X_isKind_0 rfl rfl ?_
  refine X_iconst (v := 0) d_X_isKind_1 rfl ?_
  refine X_iconst (v := 5) d_X_isKind_2 rfl ?_
  refine X_callS (v := .int (xb (xin v 0 5))) (rest := []) (c_X_within l G nn _ (by omega) v 0 5) lk_X_within ml_X_105 rfl (Nat.le_of_ble_eq_true rfl) (xRok (d' := d - 1) (by omega) (by decide)) ⟨Nat.le_refl _, Nat.le_refl _⟩ d_X_isKind_3 rfl ?_
  exact X_zret rfl (xb_nar _) (congrArg (fun q => some (Value.int q)) (by simp [xin])) (xle_rf _) d_X_isKind_6
theorem c_X_isSheet (l : Launch) (G : xG) {d : Nat} (nn : Nat) (M : xM) (hd : 2 ≤ d) (v : Int32) : XM l G d y_X_isSheet b_X_isSheet 1 (some .boolean) 0 0 xK0 [.int v] nn M (some (.int (xb (xin v 0 3)))) nn M := by
  refine XM.of (by decide) (Nat.le_of_ble_eq_true rfl) (L := [(0, .int v)]) rfl ?_
  refine X_iload_n d_X_isSheet_0 rfl rfl ?_
  refine X_iconst (v := 0) d_X_isSheet_1 rfl ?_
  refine X_iconst (v := 3) d_X_isSheet_2 rfl ?_
  refine X_callS (v := .int (xb (xin v 0 3))) (rest := []) (c_X_within l G nn _ (by omega) v 0 3) lk_X_within ml_X_105 rfl (Nat.le_of_ble_eq_true rfl) (xRok (d' := d - 1) (by omega) (by decide)) ⟨Nat.le_refl _, Nat.le_refl _⟩ d_X_isSheet_3 rfl ?_
  exact X_zret rfl (xb_nar _) (congrArg (fun q => some (Value.int q)) (by simp [xin])) (xle_rf _) d_X_isSheet_6
theorem c_X_isTurns (l : Launch) (G : xG) {d : Nat} (nn : Nat) (M : xM) (hd : 2 ≤ d) (v : Int32) : XM l G d y_X_isTurns b_X_isTurns 1 (some .boolean) 0 0 xK0 [.int v] nn M (some (.int (xb (xin v (-40) 40)))) nn M := by
  refine XM.of (by decide) (Nat.le_of_ble_eq_true rfl) (L := [(0, .int v)]) rfl ?_
  refine X_iload_n d_X_isTurns_0 rfl rfl ?_
  refine X_bipush (v := -40) d_X_isTurns_1 rfl ?_
  refine X_bipush (v := 40) d_X_isTurns_3 rfl ?_
  refine X_callS (v := .int (xb (xin v (-40) 40))) (rest := []) (c_X_within l G nn _ (by omega) v (-40) 40) lk_X_within ml_X_105 rfl (Nat.le_of_ble_eq_true rfl) (xRok (d' := d - 1) (by omega) (by decide)) ⟨Nat.le_refl _, Nat.le_refl _⟩ d_X_isTurns_5 rfl ?_
  exact X_zret rfl (xb_nar _) (congrArg (fun q => some (Value.int q)) (by simp [xin])) (xle_rf _) d_X_isTurns_8
theorem c_X_isSeconds (l : Launch) (G : xG) {d : Nat} (nn : Nat) (M : xM) (hd : 2 ≤ d) (v : Int32) : XM l G d y_X_isSeconds b_X_isSeconds 1 (some .boolean) 0 0 xK0 [.int v] nn M (some (.int (xb (xin v 0 60)))) nn M := by
  refine XM.of (by decide) (Nat.le_of_ble_eq_true rfl) (L := [(0, .int v)]) rfl ?_
  refine X_iload_n d_X_isSeconds_0 rfl rfl ?_
  refine X_iconst (v := 0) d_X_isSeconds_1 rfl ?_
  refine X_bipush (v := 60) d_X_isSeconds_2 rfl ?_
  refine X_callS (v := .int (xb (xin v 0 60))) (rest := []) (c_X_within l G nn _ (by omega) v 0 60) lk_X_within ml_X_105 rfl (Nat.le_of_ble_eq_true rfl) (xRok (d' := d - 1) (by omega) (by decide)) ⟨Nat.le_refl _, Nat.le_refl _⟩ d_X_isSeconds_4 rfl ?_
  exact X_zret rfl (xb_nar _) (congrArg (fun q => some (Value.int q)) (by simp [xin])) (xle_rf _) d_X_isSeconds_7
theorem c_X_isPace (l : Launch) (G : xG) {d : Nat} (nn : Nat) (M : xM) (hd : 2 ≤ d) (v : Int32) : XM l G d y_X_isPace b_X_isPace 1 (some .boolean) 0 0 xK0 [.int v] nn M (some (.int (xb (xin v 1 9)))) nn M := by
  refine XM.of (by decide) (Nat.le_of_ble_eq_true rfl) (L := [(0, .int v)]) rfl ?_
  refine X_iload_n d_X_isPace_0 rfl rfl ?_
  refine X_iconst (v := 1) d_X_isPace_1 rfl ?_
  refine X_bipush (v := 9) d_X_isPace_2 rfl ?_
  refine X_callS (v := .int (xb (xin v 1 9))) (rest := []) (c_X_within l G nn _ (by omega) v 1 9) lk_X_within ml_X_105 rfl (Nat.le_of_ble_eq_true rfl) (xRok (d' := d - 1) (by omega) (by decide)) ⟨Nat.le_refl _, Nat.le_refl _⟩ d_X_isPace_4 rfl ?_
  exact X_zret rfl (xb_nar _) (congrArg (fun q => some (Value.int q)) (by simp [xin])) (xle_rf _) d_X_isPace_7
theorem c_X_bounded (l : Launch) (G : xG) {d : Nat} (nn : Nat) (M : xM) (hd : 2 ≤ d) (v low high : Int32) (hle : low ≤ high) : XM l G d y_X_bounded b_X_bounded 3 (some .int) 0 0 xK0 [.int v, .int low, .int high] nn M (some (.int (xbd v low high))) nn M := by
  refine XM.of (by decide) (Nat.le_of_ble_eq_true rfl) (L := [(0, .int v), (1, .int low), (2, .int high)]) rfl ?_
  refine X_iload_n d_X_bounded_0 rfl rfl ?_
  refine X_iload_n d_X_bounded_1 rfl rfl ?_
  refine X_iload_n d_X_bounded_2 rfl rfl ?_
  refine X_mmin ml_X_179 mt_min mi_math mc_min (xRm (by omega) (Nat.le_of_ble_eq_true rfl)) ⟨Nat.zero_le _, Nat.zero_le _⟩ d_X_bounded_3 ?_
  refine X_mmax ml_X_334 mt_max mi_math mc_max (xRm (by omega) (Nat.le_of_ble_eq_true rfl)) ⟨Nat.zero_le _, Nat.zero_le _⟩ d_X_bounded_6 ?_
  exact X_iret rfl (congrArg (fun q => some (Value.int q)) (by unfold xbd; grind)) (xle_rf _) d_X_bounded_9
theorem c_X_isSpeedPace (l : Launch) (G : xG) {d : Nat} (nn : Nat) (M : xM) (hd : 3 ≤ d) (v : Int32) : XM l G d y_X_isSpeedPace b_X_isSpeedPace 1 (some .boolean) 0 0 xK0 [.int v] nn M (some (.int (xb (xsp v)))) nn M := by
  refine XM.of (by decide) (Nat.le_of_ble_eq_true rfl) (L := [(0, .int v)]) rfl ?_
  refine X_iload_n d_X_isSpeedPace_0 rfl rfl ?_
  refine X_if_le (tgt := 28) d_X_isSpeedPace_1 (by decide) (fun c_1 => ?_) (fun c_1 => ?_)
  ·
    refine X_iconst (v := 0) d_X_isSpeedPace_28 rfl ?_
    exact X_zret rfl rfl (congrArg (fun q => some (Value.int q)) (by simp [xb, xsp, c_1, Int32.not_lt.mpr c_1])) (xle_rf _) d_X_isSpeedPace_29
  ·
    refine X_iload_n d_X_isSpeedPace_4 rfl rfl ?_
    refine X_bipush (v := 10) d_X_isSpeedPace_5 rfl ?_
    refine X_idiv d_X_isSpeedPace_7 (by decide) ?_
    refine X_callS (v := .int (xb (xin (v / 10) 1 9))) (rest := []) (c_X_isPace l G nn _ (by omega) (v / 10)) lk_X_isPace ml_X_172 rfl (Nat.le_of_ble_eq_true rfl) (xRok (d' := d - 1) (by omega) (by decide)) ⟨Nat.le_refl _, Nat.le_refl _⟩ d_X_isSpeedPace_8 rfl ?_
    refine X_ifb_eq (tgt := 28) d_X_isSpeedPace_11 (by decide) (fun c_2 => ?_) (fun c_2 => ?_)
    ·
      refine X_iconst (v := 0) d_X_isSpeedPace_28 rfl ?_
      exact X_zret rfl rfl (congrArg (fun q => some (Value.int q)) (by simp [xb, xsp, c_1, Int32.not_le.mp c_1, c_2])) (xle_rf _) d_X_isSpeedPace_29
    ·
      refine X_iload_n d_X_isSpeedPace_14 rfl rfl ?_
      refine X_bipush (v := 10) d_X_isSpeedPace_15 rfl ?_
      refine X_irem d_X_isSpeedPace_17 (by decide) ?_
      refine X_callS (v := .int (xb (xin (v - v / 10 * 10) 1 9))) (rest := []) (c_X_isPace l G nn _ (by omega) (v - v / 10 * 10)) lk_X_isPace ml_X_172 rfl (Nat.le_of_ble_eq_true rfl) (xRok (d' := d - 1) (by omega) (by decide)) ⟨Nat.le_refl _, Nat.le_refl _⟩ d_X_isSpeedPace_18 rfl ?_
      refine X_ifb_eq (tgt := 28) d_X_isSpeedPace_21 (by decide) (fun c_3 => ?_) (fun c_3 => ?_)
      ·
        refine X_iconst (v := 0) d_X_isSpeedPace_28 rfl ?_
        exact X_zret rfl rfl (congrArg (fun q => some (Value.int q)) (by simp [xb, xsp, c_1, Int32.not_le.mp c_1, c_2, c_3])) (xle_rf _) d_X_isSpeedPace_29
      ·
        refine X_iconst (v := 1) d_X_isSpeedPace_24 rfl ?_
        refine X_goto (tgt := 29) d_X_isSpeedPace_25 (by decide) ?_
        exact X_zret rfl rfl (congrArg (fun q => some (Value.int q)) (by simp [xb, xsp, c_1, Int32.not_le.mp c_1, c_2, c_3])) (xle_rf _) d_X_isSpeedPace_29
theorem c_X_isNumberAndEyes (l : Launch) (G : xG) {d : Nat} (nn : Nat) (M : xM) (hd : 3 ≤ d) (v least : Int32) : XM l G d y_X_isNumberAndEyes b_X_isNumberAndEyes 2 (some .boolean) 0 0 xK0 [.int v, .int least] nn M (some (.int (xb (xnum v least)))) nn M := by
  refine XM.of (by decide) (Nat.le_of_ble_eq_true rfl) (L := [(0, .int v), (1, .int least)]) rfl ?_
  refine X_iload_n d_X_isNumberAndEyes_0 rfl rfl ?_
  refine X_if_lt (tgt := 33) d_X_isNumberAndEyes_1 (by decide) (fun c_1 => ?_) (fun c_1 => ?_)
  ·
    refine X_iconst (v := 0) d_X_isNumberAndEyes_33 rfl ?_
    exact X_zret rfl rfl (congrArg (fun q => some (Value.int q)) (by simp [xb, xnum, c_1, Int32.not_le.mpr c_1])) (xle_rf _) d_X_isNumberAndEyes_34
  ·
    refine X_iload_n d_X_isNumberAndEyes_4 rfl rfl ?_
    refine X_bipush (v := 10) d_X_isNumberAndEyes_5 rfl ?_
    refine X_idiv d_X_isNumberAndEyes_7 (by decide) ?_
    refine X_iload_n d_X_isNumberAndEyes_8 rfl rfl ?_
    refine X_bipush (v := 9) d_X_isNumberAndEyes_9 rfl ?_
    refine X_callS (v := .int (xb (xin (v / 10) least 9))) (rest := []) (c_X_within l G nn _ (by omega) (v / 10) least 9) lk_X_within ml_X_105 rfl (Nat.le_of_ble_eq_true rfl) (xRok (d' := d - 1) (by omega) (by decide)) ⟨Nat.le_refl _, Nat.le_refl _⟩ d_X_isNumberAndEyes_11 rfl ?_
    refine X_ifb_eq (tgt := 33) d_X_isNumberAndEyes_14 (by decide) (fun c_2 => ?_) (fun c_2 => ?_)
    ·
      refine X_iconst (v := 0) d_X_isNumberAndEyes_33 rfl ?_
      exact X_zret rfl rfl (congrArg (fun q => some (Value.int q)) (by simp [xb, xnum, c_1, Int32.not_lt.mp c_1, c_2])) (xle_rf _) d_X_isNumberAndEyes_34
    ·
      refine X_iload_n d_X_isNumberAndEyes_17 rfl rfl ?_
      refine X_bipush (v := 10) d_X_isNumberAndEyes_18 rfl ?_
      refine X_irem d_X_isNumberAndEyes_20 (by decide) ?_
      refine X_iconst (v := 0) d_X_isNumberAndEyes_21 rfl ?_
      refine X_iconst (v := 1) d_X_isNumberAndEyes_22 rfl ?_
      refine X_callS (v := .int (xb (xin (v - v / 10 * 10) 0 1))) (rest := []) (c_X_within l G nn _ (by omega) (v - v / 10 * 10) 0 1) lk_X_within ml_X_105 rfl (Nat.le_of_ble_eq_true rfl) (xRok (d' := d - 1) (by omega) (by decide)) ⟨Nat.le_refl _, Nat.le_refl _⟩ d_X_isNumberAndEyes_23 rfl ?_
      refine X_ifb_eq (tgt := 33) d_X_isNumberAndEyes_26 (by decide) (fun c_3 => ?_) (fun c_3 => ?_)
      ·
        refine X_iconst (v := 0) d_X_isNumberAndEyes_33 rfl ?_
        exact X_zret rfl rfl (congrArg (fun q => some (Value.int q)) (by simp [xb, xnum, c_1, Int32.not_lt.mp c_1, c_2, c_3])) (xle_rf _) d_X_isNumberAndEyes_34
      ·
        refine X_iconst (v := 1) d_X_isNumberAndEyes_29 rfl ?_
        refine X_goto (tgt := 34) d_X_isNumberAndEyes_30 (by decide) ?_
        exact X_zret rfl rfl (congrArg (fun q => some (Value.int q)) (by simp [xb, xnum, c_1, Int32.not_lt.mp c_1, c_2, c_3])) (xle_rf _) d_X_isNumberAndEyes_34
theorem c_X_isWaitSpeedPace (l : Launch) (G : xG) {d : Nat} (nn : Nat) (M : xM) (hd : 4 ≤ d) (v : Int32) : XM l G d y_X_isWaitSpeedPace b_X_isWaitSpeedPace 1 (some .boolean) 0 0 xK0 [.int v] nn M (some (.int (xb (xwsp v)))) nn M := by
  refine XM.of (by decide) (Nat.le_of_ble_eq_true rfl) (L := [(0, .int v)]) rfl ?_
  refine X_iload_n d_X_isWaitSpeedPace_0 rfl rfl ?_
  refine X_if_le (tgt := 28) d_X_isWaitSpeedPace_1 (by decide) (fun c_1 => ?_) (fun c_1 => ?_)
  ·
    refine X_iconst (v := 0) d_X_isWaitSpeedPace_28 rfl ?_
    exact X_zret rfl rfl (congrArg (fun q => some (Value.int q)) (by simp [xb, xwsp, c_1, Int32.not_lt.mpr c_1])) (xle_rf _) d_X_isWaitSpeedPace_29
  ·
    refine X_iload_n d_X_isWaitSpeedPace_4 rfl rfl ?_
    refine X_bipush (v := 100) d_X_isWaitSpeedPace_5 rfl ?_
    refine X_idiv d_X_isWaitSpeedPace_7 (by decide) ?_
    refine X_callS (v := .int (xb (xin (v / 100) 0 60))) (rest := []) (c_X_isSeconds l G nn _ (by omega) (v / 100)) lk_X_isSeconds ml_X_185 rfl (Nat.le_of_ble_eq_true rfl) (xRok (d' := d - 1) (by omega) (by decide)) ⟨Nat.le_refl _, Nat.le_refl _⟩ d_X_isWaitSpeedPace_8 rfl ?_
    refine X_ifb_eq (tgt := 28) d_X_isWaitSpeedPace_11 (by decide) (fun c_2 => ?_) (fun c_2 => ?_)
    ·
      refine X_iconst (v := 0) d_X_isWaitSpeedPace_28 rfl ?_
      exact X_zret rfl rfl (congrArg (fun q => some (Value.int q)) (by simp [xb, xwsp, c_1, Int32.not_le.mp c_1, c_2])) (xle_rf _) d_X_isWaitSpeedPace_29
    ·
      refine X_iload_n d_X_isWaitSpeedPace_14 rfl rfl ?_
      refine X_bipush (v := 100) d_X_isWaitSpeedPace_15 rfl ?_
      refine X_irem d_X_isWaitSpeedPace_17 (by decide) ?_
      refine X_callS (v := .int (xb (xsp (v - v / 100 * 100)))) (rest := []) (c_X_isSpeedPace l G nn _ (by omega) (v - v / 100 * 100)) lk_X_isSpeedPace ml_X_241 rfl (Nat.le_of_ble_eq_true rfl) (xRok (d' := d - 1) (by omega) (by decide)) ⟨Nat.le_refl _, Nat.le_refl _⟩ d_X_isWaitSpeedPace_18 rfl ?_
      refine X_ifb_eq (tgt := 28) d_X_isWaitSpeedPace_21 (by decide) (fun c_3 => ?_) (fun c_3 => ?_)
      ·
        refine X_iconst (v := 0) d_X_isWaitSpeedPace_28 rfl ?_
        exact X_zret rfl rfl (congrArg (fun q => some (Value.int q)) (by simp [xb, xwsp, c_1, Int32.not_le.mp c_1, c_2, c_3])) (xle_rf _) d_X_isWaitSpeedPace_29
      ·
        refine X_iconst (v := 1) d_X_isWaitSpeedPace_24 rfl ?_
        refine X_goto (tgt := 29) d_X_isWaitSpeedPace_25 (by decide) ?_
        exact X_zret rfl rfl (congrArg (fun q => some (Value.int q)) (by simp [xb, xwsp, c_1, Int32.not_le.mp c_1, c_2, c_3])) (xle_rf _) d_X_isWaitSpeedPace_29
theorem c_X_isOddsPace (l : Launch) (G : xG) {d : Nat} (nn : Nat) (M : xM) (hd : 3 ≤ d) (v : Int32) : XM l G d y_X_isOddsPace b_X_isOddsPace 1 (some .boolean) 0 0 xK0 [.int v] nn M (some (.int (xb (xop v)))) nn M := by
  refine XM.of (by decide) (Nat.le_of_ble_eq_true rfl) (L := [(0, .int v)]) rfl ?_
  refine X_iload_n d_X_isOddsPace_0 rfl rfl ?_
  refine X_if_le (tgt := 31) d_X_isOddsPace_1 (by decide) (fun c_1 => ?_) (fun c_1 => ?_)
  ·
    refine X_iconst (v := 0) d_X_isOddsPace_31 rfl ?_
    exact X_zret rfl rfl (congrArg (fun q => some (Value.int q)) (by simp [xb, xop, c_1, Int32.not_lt.mpr c_1])) (xle_rf _) d_X_isOddsPace_32
  ·
    refine X_iload_n d_X_isOddsPace_4 rfl rfl ?_
    refine X_bipush (v := 10) d_X_isOddsPace_5 rfl ?_
    refine X_idiv d_X_isOddsPace_7 (by decide) ?_
    refine X_iconst (v := 0) d_X_isOddsPace_8 rfl ?_
    refine X_bipush (v := 100) d_X_isOddsPace_9 rfl ?_
    refine X_callS (v := .int (xb (xin (v / 10) 0 100))) (rest := []) (c_X_within l G nn _ (by omega) (v / 10) 0 100) lk_X_within ml_X_105 rfl (Nat.le_of_ble_eq_true rfl) (xRok (d' := d - 1) (by omega) (by decide)) ⟨Nat.le_refl _, Nat.le_refl _⟩ d_X_isOddsPace_11 rfl ?_
    refine X_ifb_eq (tgt := 31) d_X_isOddsPace_14 (by decide) (fun c_2 => ?_) (fun c_2 => ?_)
    ·
      refine X_iconst (v := 0) d_X_isOddsPace_31 rfl ?_
      exact X_zret rfl rfl (congrArg (fun q => some (Value.int q)) (by simp [xb, xop, c_1, Int32.not_le.mp c_1, c_2])) (xle_rf _) d_X_isOddsPace_32
    ·
      refine X_iload_n d_X_isOddsPace_17 rfl rfl ?_
      refine X_bipush (v := 10) d_X_isOddsPace_18 rfl ?_
      refine X_irem d_X_isOddsPace_20 (by decide) ?_
      refine X_callS (v := .int (xb (xin (v - v / 10 * 10) 1 9))) (rest := []) (c_X_isPace l G nn _ (by omega) (v - v / 10 * 10)) lk_X_isPace ml_X_172 rfl (Nat.le_of_ble_eq_true rfl) (xRok (d' := d - 1) (by omega) (by decide)) ⟨Nat.le_refl _, Nat.le_refl _⟩ d_X_isOddsPace_21 rfl ?_
      refine X_ifb_eq (tgt := 31) d_X_isOddsPace_24 (by decide) (fun c_3 => ?_) (fun c_3 => ?_)
      ·
        refine X_iconst (v := 0) d_X_isOddsPace_31 rfl ?_
        exact X_zret rfl rfl (congrArg (fun q => some (Value.int q)) (by simp [xb, xop, c_1, Int32.not_le.mp c_1, c_2, c_3])) (xle_rf _) d_X_isOddsPace_32
      ·
        refine X_iconst (v := 1) d_X_isOddsPace_27 rfl ?_
        refine X_goto (tgt := 32) d_X_isOddsPace_28 (by decide) ?_
        exact X_zret rfl rfl (congrArg (fun q => some (Value.int q)) (by simp [xb, xop, c_1, Int32.not_le.mp c_1, c_2, c_3])) (xle_rf _) d_X_isOddsPace_32
theorem c_X_isSecondsSeeds (l : Launch) (G : xG) {d : Nat} (nn : Nat) (M : xM) (hd : 3 ≤ d) (v : Int32) : XM l G d y_X_isSecondsSeeds b_X_isSecondsSeeds 1 (some .boolean) 0 0 xK0 [.int v] nn M (some (.int (xb (xss v)))) nn M := by
  refine XM.of (by decide) (Nat.le_of_ble_eq_true rfl) (L := [(0, .int v)]) rfl ?_
  refine X_iload_n d_X_isSecondsSeeds_0 rfl rfl ?_
  refine X_if_le (tgt := 31) d_X_isSecondsSeeds_1 (by decide) (fun c_1 => ?_) (fun c_1 => ?_)
  ·
    refine X_iconst (v := 0) d_X_isSecondsSeeds_31 rfl ?_
    exact X_zret rfl rfl (congrArg (fun q => some (Value.int q)) (by simp [xb, xss, c_1, Int32.not_lt.mpr c_1])) (xle_rf _) d_X_isSecondsSeeds_32
  ·
    refine X_iload_n d_X_isSecondsSeeds_4 rfl rfl ?_
    refine X_bipush (v := 100) d_X_isSecondsSeeds_5 rfl ?_
    refine X_idiv d_X_isSecondsSeeds_7 (by decide) ?_
    refine X_callS (v := .int (xb (xin (v / 100) 0 60))) (rest := []) (c_X_isSeconds l G nn _ (by omega) (v / 100)) lk_X_isSeconds ml_X_185 rfl (Nat.le_of_ble_eq_true rfl) (xRok (d' := d - 1) (by omega) (by decide)) ⟨Nat.le_refl _, Nat.le_refl _⟩ d_X_isSecondsSeeds_8 rfl ?_
    refine X_ifb_eq (tgt := 31) d_X_isSecondsSeeds_11 (by decide) (fun c_2 => ?_) (fun c_2 => ?_)
    ·
      refine X_iconst (v := 0) d_X_isSecondsSeeds_31 rfl ?_
      exact X_zret rfl rfl (congrArg (fun q => some (Value.int q)) (by simp [xb, xss, c_1, Int32.not_le.mp c_1, c_2])) (xle_rf _) d_X_isSecondsSeeds_32
    ·
      refine X_iload_n d_X_isSecondsSeeds_14 rfl rfl ?_
      refine X_bipush (v := 100) d_X_isSecondsSeeds_15 rfl ?_
      refine X_irem d_X_isSecondsSeeds_17 (by decide) ?_
      refine X_iconst (v := 1) d_X_isSecondsSeeds_18 rfl ?_
      refine X_bipush (v := 40) d_X_isSecondsSeeds_19 rfl ?_
      refine X_callS (v := .int (xb (xin (v - v / 100 * 100) 1 40))) (rest := []) (c_X_within l G nn _ (by omega) (v - v / 100 * 100) 1 40) lk_X_within ml_X_105 rfl (Nat.le_of_ble_eq_true rfl) (xRok (d' := d - 1) (by omega) (by decide)) ⟨Nat.le_refl _, Nat.le_refl _⟩ d_X_isSecondsSeeds_21 rfl ?_
      refine X_ifb_eq (tgt := 31) d_X_isSecondsSeeds_24 (by decide) (fun c_3 => ?_) (fun c_3 => ?_)
      ·
        refine X_iconst (v := 0) d_X_isSecondsSeeds_31 rfl ?_
        exact X_zret rfl rfl (congrArg (fun q => some (Value.int q)) (by simp [xb, xss, c_1, Int32.not_le.mp c_1, c_2, c_3])) (xle_rf _) d_X_isSecondsSeeds_32
      ·
        refine X_iconst (v := 1) d_X_isSecondsSeeds_27 rfl ?_
        refine X_goto (tgt := 32) d_X_isSecondsSeeds_28 (by decide) ?_
        exact X_zret rfl rfl (congrArg (fun q => some (Value.int q)) (by simp [xb, xss, c_1, Int32.not_le.mp c_1, c_2, c_3])) (xle_rf _) d_X_isSecondsSeeds_32
theorem c_X_isRace (l : Launch) (G : xG) {d : Nat} (nn : Nat) (M : xM) (hd : 4 ≤ d) (n sp fw what : Int32) : XM l G d y_X_isRace b_X_isRace 4 (some .boolean) 0 0 xK0 [.int n, .int sp, .int fw, .int what] nn M (some (.int (xb (xrace n sp fw what)))) nn M := by
  refine XM.of (by decide) (Nat.le_of_ble_eq_true rfl) (L := [(0, .int n), (1, .int sp), (2, .int fw), (3, .int what)]) rfl ?_
  refine X_iload_n d_X_isRace_0 rfl rfl ?_
  refine X_callS (v := .int (xb (xin n (-40) 40))) (rest := []) (c_X_isTurns l G nn _ (by omega) n) lk_X_isTurns ml_X_169 rfl (Nat.le_of_ble_eq_true rfl) (xRok (d' := d - 1) (by omega) (by decide)) ⟨Nat.le_refl _, Nat.le_refl _⟩ d_X_isRace_1 rfl ?_
  refine X_ifb_eq (tgt := 40) d_X_isRace_4 (by decide) (fun c_1 => ?_) (fun c_1 => ?_)
  ·
    refine X_iconst (v := 0) d_X_isRace_40 rfl ?_
    exact X_zret rfl rfl (congrArg (fun q => some (Value.int q)) (by simp [xb, xrace, c_1])) (xle_rf _) d_X_isRace_41
  ·
    refine X_iload_n d_X_isRace_7 rfl rfl ?_
    refine X_callS (v := .int (xb (xsp sp))) (rest := []) (c_X_isSpeedPace l G nn _ (by omega) sp) lk_X_isSpeedPace ml_X_241 rfl (Nat.le_of_ble_eq_true rfl) (xRok (d' := d - 1) (by omega) (by decide)) ⟨Nat.le_refl _, Nat.le_refl _⟩ d_X_isRace_8 rfl ?_
    refine X_ifb_eq (tgt := 40) d_X_isRace_11 (by decide) (fun c_2 => ?_) (fun c_2 => ?_)
    ·
      refine X_iconst (v := 0) d_X_isRace_40 rfl ?_
      exact X_zret rfl rfl (congrArg (fun q => some (Value.int q)) (by simp [xb, xrace, c_1, c_2])) (xle_rf _) d_X_isRace_41
    ·
      refine X_iload_n d_X_isRace_14 rfl rfl ?_
      refine X_sipush (v := 1000) d_X_isRace_15 rfl ?_
      refine X_ldcw cs_X_337 d_X_isRace_18 ?_
      refine X_callS (v := .int (xb (xin fw 1000 540999))) (rest := []) (c_X_within l G nn _ (by omega) fw 1000 540999) lk_X_within ml_X_105 rfl (Nat.le_of_ble_eq_true rfl) (xRok (d' := d - 1) (by omega) (by decide)) ⟨Nat.le_refl _, Nat.le_refl _⟩ d_X_isRace_21 rfl ?_
      refine X_ifb_eq (tgt := 40) d_X_isRace_24 (by decide) (fun c_3 => ?_) (fun c_3 => ?_)
      ·
        refine X_iconst (v := 0) d_X_isRace_40 rfl ?_
        exact X_zret rfl rfl (congrArg (fun q => some (Value.int q)) (by simp [xb, xrace, c_1, c_2, c_3])) (xle_rf _) d_X_isRace_41
      ·
        refine X_iload_n d_X_isRace_27 rfl rfl ?_
        refine X_iconst (v := 0) d_X_isRace_28 rfl ?_
        refine X_iconst (v := 1) d_X_isRace_29 rfl ?_
        refine X_callS (v := .int (xb (xin what 0 1))) (rest := []) (c_X_within l G nn _ (by omega) what 0 1) lk_X_within ml_X_105 rfl (Nat.le_of_ble_eq_true rfl) (xRok (d' := d - 1) (by omega) (by decide)) ⟨Nat.le_refl _, Nat.le_refl _⟩ d_X_isRace_30 rfl ?_
        refine X_ifb_eq (tgt := 40) d_X_isRace_33 (by decide) (fun c_4 => ?_) (fun c_4 => ?_)
        ·
          refine X_iconst (v := 0) d_X_isRace_40 rfl ?_
          exact X_zret rfl rfl (congrArg (fun q => some (Value.int q)) (by simp [xb, xrace, c_1, c_2, c_3, c_4])) (xle_rf _) d_X_isRace_41
        ·
          refine X_iconst (v := 1) d_X_isRace_36 rfl ?_
          refine X_goto (tgt := 41) d_X_isRace_37 (by decide) ?_
          exact X_zret rfl rfl (congrArg (fun q => some (Value.int q)) (by simp [xb, xrace, c_1, c_2, c_3, c_4])) (xle_rf _) d_X_isRace_41
theorem c_X_turnsAt (l : Launch) (G : xG) {d : Nat} (nn : Nat) (M : xM) (hd : 1 ≤ d) (i : Int32) : XM l G d y_X_turnsAt b_X_turnsAt 1 (some .int) 0 0 xK0 [.int i] nn M (some (.int (xta i))) nn M := by
  refine XM.of (by decide) (Nat.le_of_ble_eq_true rfl) (L := [(0, .int i)]) rfl ?_
  refine X_iload_n d_X_turnsAt_0 rfl rfl ?_
  refine X_iconst (v := 2) d_X_turnsAt_1 rfl ?_
  refine X_irem d_X_turnsAt_2 (by decide) ?_
  refine X_iconst (v := 1) d_X_turnsAt_3 rfl ?_
  refine X_icmp_ne (tgt := 15) d_X_turnsAt_4 (by decide) (fun c_1 => ?_) (fun c_1 => ?_)
  ·
    refine X_iload_n d_X_turnsAt_15 rfl rfl ?_
    refine X_iconst (v := 2) d_X_turnsAt_16 rfl ?_
    refine X_idiv d_X_turnsAt_17 (by decide) ?_
    refine X_ineg d_X_turnsAt_18 ?_
    exact X_iret rfl (congrArg (fun q => some (Value.int q)) (by simp [xta, c_1])) (xle_rf _) d_X_turnsAt_19
  ·
    refine X_iload_n d_X_turnsAt_7 rfl rfl ?_
    refine X_iconst (v := 1) d_X_turnsAt_8 rfl ?_
    refine X_iadd d_X_turnsAt_9 ?_
    refine X_iconst (v := 2) d_X_turnsAt_10 rfl ?_
    refine X_idiv d_X_turnsAt_11 (by decide) ?_
    refine X_goto (tgt := 19) d_X_turnsAt_12 (by decide) ?_
    exact X_iret rfl (congrArg (fun q => some (Value.int q)) (by simp [xta, c_1])) (xle_rf _) d_X_turnsAt_19
theorem c_X_roundedUp (l : Launch) (G : xG) {d : Nat} (nn : Nat) (M : xM) (hd : 1 ≤ d) (far pace : Int32) : XM l G d y_X_roundedUp b_X_roundedUp 2 (some .int) 0 0 xK0 [.int far, .int pace] nn M (some (.int (xru far pace))) nn M := by
  refine XM.of (by decide) (Nat.le_of_ble_eq_true rfl) (L := [(0, .int far), (1, .int pace)]) rfl ?_
  refine X_iload_n d_X_roundedUp_0 rfl rfl ?_
  refine X_iconst (v := 1) d_X_roundedUp_1 rfl ?_
  refine X_icmp_ge (tgt := 9) d_X_roundedUp_2 (by decide) (fun c_1 => ?_) (fun c_1 => ?_)
  ·
    refine X_iload_n d_X_roundedUp_9 rfl rfl ?_
    refine X_iload_n d_X_roundedUp_10 rfl rfl ?_
    refine X_iadd d_X_roundedUp_11 ?_
    refine X_iconst (v := 1) d_X_roundedUp_12 rfl ?_
    refine X_isub d_X_roundedUp_13 ?_
    refine X_iload_n d_X_roundedUp_14 rfl rfl ?_
    refine X_idiv d_X_roundedUp_15 (by grind) ?_
    exact X_iret rfl (congrArg (fun q => some (Value.int q)) (by simp [xru, c_1, Int32.not_lt.mpr c_1])) (xle_rf _) d_X_roundedUp_16
  ·
    refine X_iconst (v := 0) d_X_roundedUp_5 rfl ?_
    refine X_goto (tgt := 16) d_X_roundedUp_6 (by decide) ?_
    exact X_iret rfl (congrArg (fun q => some (Value.int q)) (by simp [xru, c_1, Int32.not_le.mp c_1])) (xle_rf _) d_X_roundedUp_16
theorem c_Kind_above (l : Launch) (G : xG) {d : Nat} (nn : Nat) (M : xM) (hd : 1 ≤ d) (k : Int32) : XM l G d y_Kind_above b_Kind_above 1 (some .int) 0 0 xK0 [.int k] nn M (some (.int (kAbove k))) nn M := by
  refine XM.of (by decide) (Nat.le_of_ble_eq_true rfl) (L := [(0, .int k)]) rfl ?_
  refine X_iload_n d_Kind_above_0 rfl rfl ?_
  refine X_iconst (v := 3) d_Kind_above_1 rfl ?_
  refine X_icmp_ne (tgt := 9) d_Kind_above_2 (by decide) (fun c_1 => ?_) (fun c_1 => ?_)
  ·
    refine X_iload_n d_Kind_above_9 rfl rfl ?_
    refine X_iconst (v := 4) d_Kind_above_10 rfl ?_
    refine X_icmp_ne (tgt := 18) d_Kind_above_11 (by decide) (fun c_2 => ?_) (fun c_2 => ?_)
    ·
      refine X_iconst (v := 0) d_Kind_above_18 rfl ?_
      exact X_iret rfl (congrArg (fun q => some (Value.int q)) (by simp [kAbove, c_1, c_2])) (xle_rf _) d_Kind_above_19
    ·
      refine X_iconst (v := 2) d_Kind_above_14 rfl ?_
      refine X_goto (tgt := 19) d_Kind_above_15 (by decide) ?_
      exact X_iret rfl (congrArg (fun q => some (Value.int q)) (by simp [kAbove, c_1, c_2])) (xle_rf _) d_Kind_above_19
  ·
    refine X_iconst (v := 1) d_Kind_above_5 rfl ?_
    refine X_goto (tgt := 19) d_Kind_above_6 (by decide) ?_
    exact X_iret rfl (congrArg (fun q => some (Value.int q)) (by simp [kAbove, c_1])) (xle_rf _) d_Kind_above_19
theorem c_Kind_isOne (l : Launch) (G : xG) {d : Nat} (nn : Nat) (M : xM) (hd : 2 ≤ d) (k w : Int32) : XM l G d y_Kind_isOne b_Kind_isOne 2 (some .boolean) 0 0 xK0 [.int k, .int w] nn M (some (.int (xb (kOne k w)))) nn M := by
  refine XM.of (by decide) (Nat.le_of_ble_eq_true rfl) (L := [(0, .int k), (1, .int w)]) rfl ?_
  refine X_iload_n d_Kind_isOne_0 rfl rfl ?_
  refine X_iload_n d_Kind_isOne_1 rfl rfl ?_
  refine X_icmp_eq (tgt := 17) d_Kind_isOne_2 (by decide) (fun c_1 => ?_) (fun c_1 => ?_)
  ·
    refine X_iconst (v := 1) d_Kind_isOne_17 rfl ?_
    refine X_goto (tgt := 22) d_Kind_isOne_18 (by decide) ?_
    exact X_zret rfl rfl (congrArg (fun q => some (Value.int q)) (by simp [xb, kOne, c_1])) (xle_rf _) d_Kind_isOne_22
  ·
    refine X_iload_n d_Kind_isOne_5 rfl rfl ?_
    refine X_if_eq (tgt := 17) d_Kind_isOne_6 (by decide) (fun c_2 => ?_) (fun c_2 => ?_)
    ·
      refine X_iconst (v := 1) d_Kind_isOne_17 rfl ?_
      refine X_goto (tgt := 22) d_Kind_isOne_18 (by decide) ?_
      exact X_zret rfl rfl (congrArg (fun q => some (Value.int q)) (by simp [xb, kOne, c_1, c_2])) (xle_rf _) d_Kind_isOne_22
    ·
      refine X_iload_n d_Kind_isOne_9 rfl rfl ?_
      refine X_iload_n d_Kind_isOne_10 rfl rfl ?_
      refine X_callS (v := .int (kAbove k)) (rest := [.int w]) (c_Kind_above l G nn _ (by omega) k) lk_Kind_above ml_Kind_9 rfl (Nat.le_of_ble_eq_true rfl) (xRok (d' := d - 1) (by omega) (by decide)) ⟨Nat.le_refl _, Nat.le_refl _⟩ d_Kind_isOne_11 rfl ?_
      refine X_icmp_ne (tgt := 21) d_Kind_isOne_14 (by decide) (fun c_3 => ?_) (fun c_3 => ?_)
      ·
        refine X_iconst (v := 0) d_Kind_isOne_21 rfl ?_
        exact X_zret rfl rfl (congrArg (fun q => some (Value.int q)) (by simp [xb, kOne, c_1, c_2, c_3])) (xle_rf _) d_Kind_isOne_22
      ·
        refine X_iconst (v := 1) d_Kind_isOne_17 rfl ?_
        refine X_goto (tgt := 22) d_Kind_isOne_18 (by decide) ?_
        exact X_zret rfl rfl (congrArg (fun q => some (Value.int q)) (by simp [xb, kOne, c_1, c_2, c_3])) (xle_rf _) d_Kind_isOne_22
theorem c_Kind_fallsFrom (l : Launch) (G : xG) {d : Nat} (nn : Nat) (M : xM) (hd : 1 ≤ d) (k more : Int32) : XM l G d y_Kind_fallsFrom b_Kind_fallsFrom 2 (some .int) 0 0 xK0 [.int k, .int more] nn M (some (.int (kFalls k more))) nn M := by
  refine XM.of (by decide) (Nat.le_of_ble_eq_true rfl) (L := [(0, .int k), (1, .int more)]) rfl ?_
  refine X_iload_n d_Kind_fallsFrom_0 rfl rfl ?_
  by_cases c_1 : k = 1
  ·
    refine X_tableIn (tgt := 32) d_Kind_fallsFrom_1 (by rw [c_1]; decide) (by rw [c_1]; decide) (by rw [c_1]; rfl) (by decide) ?_
    refine X_sipush (v := 800) d_Kind_fallsFrom_32 rfl ?_
    refine X_bipush (v := 20) d_Kind_fallsFrom_35 rfl ?_
    refine X_iload_n d_Kind_fallsFrom_37 rfl rfl ?_
    refine X_imul d_Kind_fallsFrom_38 ?_
    refine X_iadd d_Kind_fallsFrom_39 ?_
    exact X_iret rfl (congrArg (fun q => some (Value.int q)) (by simp [kFalls, c_1])) (xle_rf _) d_Kind_fallsFrom_40
  by_cases c_2 : k = 2
  ·
    refine X_tableIn (tgt := 45) d_Kind_fallsFrom_1 (by rw [c_2]; decide) (by rw [c_2]; decide) (by rw [c_2]; rfl) (by decide) ?_
    refine X_sipush (v := 800) d_Kind_fallsFrom_45 rfl ?_
    exact X_iret rfl (congrArg (fun q => some (Value.int q)) (by simp [kFalls, c_1, c_2])) (xle_rf _) d_Kind_fallsFrom_48
  by_cases c_3 : k = 3
  ·
    refine X_tableIn (tgt := 32) d_Kind_fallsFrom_1 (by rw [c_3]; decide) (by rw [c_3]; decide) (by rw [c_3]; rfl) (by decide) ?_
    refine X_sipush (v := 800) d_Kind_fallsFrom_32 rfl ?_
    refine X_bipush (v := 20) d_Kind_fallsFrom_35 rfl ?_
    refine X_iload_n d_Kind_fallsFrom_37 rfl rfl ?_
    refine X_imul d_Kind_fallsFrom_38 ?_
    refine X_iadd d_Kind_fallsFrom_39 ?_
    exact X_iret rfl (congrArg (fun q => some (Value.int q)) (by simp [kFalls, c_1, c_2, c_3])) (xle_rf _) d_Kind_fallsFrom_40
  by_cases c_4 : k = 4
  ·
    refine X_tableIn (tgt := 41) d_Kind_fallsFrom_1 (by rw [c_4]; decide) (by rw [c_4]; decide) (by rw [c_4]; rfl) (by decide) ?_
    refine X_sipush (v := 400) d_Kind_fallsFrom_41 rfl ?_
    exact X_iret rfl (congrArg (fun q => some (Value.int q)) (by simp [kFalls, c_1, c_2, c_3, c_4])) (xle_rf _) d_Kind_fallsFrom_44
  refine X_tableOut (tgt := 45) d_Kind_fallsFrom_1 (xtout k (1) (4) (by decide) (by intro q h1 h2; have hq : q = 1 ∨ q = 2 ∨ q = 3 ∨ q = 4 := (by omega); rcases hq with rfl | rfl | rfl | rfl <;> first | exact c_1 | exact c_2 | exact c_3 | exact c_4)) (by decide) ?_
  refine X_sipush (v := 800) d_Kind_fallsFrom_45 rfl ?_
  exact X_iret rfl (congrArg (fun q => some (Value.int q)) (by simp [kFalls, c_1, c_2, c_3, c_4])) (xle_rf _) d_Kind_fallsFrom_48
theorem c_Kind_builds (l : Launch) (G : xG) {d : Nat} (nn : Nat) (M : xM) (hd : 2 ≤ d) (k said speed more : Int32) : XM l G d y_Kind_builds b_Kind_builds 4 (some .int) 0 0 xK0 [.int k, .int said, .int speed, .int more] nn M (some (.int (kBuilds k said speed more))) nn M := by
  refine XM.of (by decide) (Nat.le_of_ble_eq_true rfl) (L := [(0, .int k), (1, .int said), (2, .int speed), (3, .int more)]) rfl ?_
  refine X_iload_n d_Kind_builds_0 rfl rfl ?_
  by_cases c_1 : k = 1
  ·
    refine X_tableIn (tgt := 36) d_Kind_builds_1 (by rw [c_1]; decide) (by rw [c_1]; decide) (by rw [c_1]; rfl) (by decide) ?_
    refine X_iload_n d_Kind_builds_36 rfl rfl ?_
    refine X_iconst (v := 2) d_Kind_builds_37 rfl ?_
    refine X_idiv d_Kind_builds_38 (by decide) ?_
    exact X_iret rfl (congrArg (fun q => some (Value.int q)) (by simp only [kBuilds]; simp_all <;> grind)) (xle_rf _) d_Kind_builds_39
  by_cases c_2 : k = 2
  ·
    refine X_tableIn (tgt := 57) d_Kind_builds_1 (by rw [c_2]; decide) (by rw [c_2]; decide) (by rw [c_2]; rfl) (by decide) ?_
    refine X_iconst (v := 0) d_Kind_builds_57 rfl ?_
    refine X_iload_n d_Kind_builds_58 rfl rfl ?_
    refine X_iconst (v := 5) d_Kind_builds_59 rfl ?_
    refine X_iload_n d_Kind_builds_60 rfl rfl ?_
    refine X_imul d_Kind_builds_61 ?_
    refine X_isub d_Kind_builds_62 ?_
    refine X_mmax ml_Kind_15 mt_max mi_math mc_max (xRm (by omega) (Nat.le_of_ble_eq_true rfl)) ⟨Nat.zero_le _, Nat.zero_le _⟩ d_Kind_builds_63 ?_
    exact X_iret rfl (congrArg (fun q => some (Value.int q)) (by simp only [kBuilds]; simp_all <;> grind)) (xle_rf _) d_Kind_builds_66
  by_cases c_3 : k = 3
  ·
    refine X_tableIn (tgt := 40) d_Kind_builds_1 (by rw [c_3]; decide) (by rw [c_3]; decide) (by rw [c_3]; rfl) (by decide) ?_
    refine X_iload_n d_Kind_builds_40 rfl rfl ?_
    refine X_iconst (v := 4) d_Kind_builds_41 rfl ?_
    refine X_icmp_le (tgt := 53) d_Kind_builds_42 (by decide) (fun c_4 => ?_) (fun c_4 => ?_)
    ·
      refine X_iload_n d_Kind_builds_53 rfl rfl ?_
      refine X_iconst (v := 2) d_Kind_builds_54 rfl ?_
      refine X_idiv d_Kind_builds_55 (by decide) ?_
      exact X_iret rfl (congrArg (fun q => some (Value.int q)) (by simp only [kBuilds]; simp_all <;> grind)) (xle_rf _) d_Kind_builds_56
    ·
      refine X_iload_n d_Kind_builds_45 rfl rfl ?_
      refine X_iconst (v := 2) d_Kind_builds_46 rfl ?_
      refine X_idiv d_Kind_builds_47 (by decide) ?_
      refine X_iconst (v := 2) d_Kind_builds_48 rfl ?_
      refine X_idiv d_Kind_builds_49 (by decide) ?_
      refine X_goto (tgt := 56) d_Kind_builds_50 (by decide) ?_
      exact X_iret rfl (congrArg (fun q => some (Value.int q)) (by simp only [kBuilds]; simp_all <;> grind)) (xle_rf _) d_Kind_builds_56
  by_cases c_5 : k = 4
  ·
    refine X_tableIn (tgt := 57) d_Kind_builds_1 (by rw [c_5]; decide) (by rw [c_5]; decide) (by rw [c_5]; rfl) (by decide) ?_
    refine X_iconst (v := 0) d_Kind_builds_57 rfl ?_
    refine X_iload_n d_Kind_builds_58 rfl rfl ?_
    refine X_iconst (v := 5) d_Kind_builds_59 rfl ?_
    refine X_iload_n d_Kind_builds_60 rfl rfl ?_
    refine X_imul d_Kind_builds_61 ?_
    refine X_isub d_Kind_builds_62 ?_
    refine X_mmax ml_Kind_15 mt_max mi_math mc_max (xRm (by omega) (Nat.le_of_ble_eq_true rfl)) ⟨Nat.zero_le _, Nat.zero_le _⟩ d_Kind_builds_63 ?_
    exact X_iret rfl (congrArg (fun q => some (Value.int q)) (by simp only [kBuilds]; simp_all <;> grind)) (xle_rf _) d_Kind_builds_66
  by_cases c_6 : k = 5
  ·
    refine X_tableIn (tgt := 67) d_Kind_builds_1 (by rw [c_6]; decide) (by rw [c_6]; decide) (by rw [c_6]; rfl) (by decide) ?_
    refine X_iload_n d_Kind_builds_67 rfl rfl ?_
    refine X_iload_n d_Kind_builds_68 rfl rfl ?_
    refine X_iload_n d_Kind_builds_69 rfl rfl ?_
    refine X_imul d_Kind_builds_70 ?_
    refine X_iadd d_Kind_builds_71 ?_
    exact X_iret rfl (congrArg (fun q => some (Value.int q)) (by simp only [kBuilds]; simp_all <;> grind)) (xle_rf _) d_Kind_builds_72
  refine X_tableOut (tgt := 73) d_Kind_builds_1 (xtout k (1) (5) (by decide) (by intro q h1 h2; have hq : q = 1 ∨ q = 2 ∨ q = 3 ∨ q = 4 ∨ q = 5 := (by omega); rcases hq with rfl | rfl | rfl | rfl | rfl <;> first | exact c_1 | exact c_2 | exact c_3 | exact c_5 | exact c_6)) (by decide) ?_
  refine X_iload_n d_Kind_builds_73 rfl rfl ?_
  exact X_iret rfl (congrArg (fun q => some (Value.int q)) (by simp only [kBuilds]; simp_all <;> grind)) (xle_rf _) d_Kind_builds_74
theorem c_Kind_fades (l : Launch) (G : xG) {d : Nat} (nn : Nat) (M : xM) (hd : 3 ≤ d) (k said : Int32) : XM l G d y_Kind_fades b_Kind_fades 4 (some .int) 0 0 xK0 [.int k, .int said] nn M (some (.int (kFades k said))) nn M := by
  refine XM.of (by decide) (Nat.le_of_ble_eq_true rfl) (L := [(0, .int k), (1, .int said)]) rfl ?_
  refine X_iload_n d_Kind_fades_0 rfl rfl ?_
  refine X_iconst (v := 5) d_Kind_fades_1 rfl ?_
  refine X_iadd d_Kind_fades_2 ?_
  refine X_istore_n d_Kind_fades_3 rfl (by decide) [1, 2, 0] (L' := [(0, .int k), (1, .int said), (2, .int (said + 5))]) rfl ?_
  refine X_iload_n d_Kind_fades_4 rfl rfl ?_
  refine X_iconst (v := 2) d_Kind_fades_5 rfl ?_
  refine X_icmp_ne (tgt := 13) d_Kind_fades_6 (by decide) (fun c_1 => ?_) (fun c_1 => ?_)
  ·
    refine X_iload_n d_Kind_fades_13 rfl rfl ?_
    refine X_iconst (v := 4) d_Kind_fades_14 rfl ?_
    refine X_icmp_ne (tgt := 24) d_Kind_fades_15 (by decide) (fun c_2 => ?_) (fun c_2 => ?_)
    ·
      refine X_iload_n d_Kind_fades_24 rfl rfl ?_
      refine X_istore_n d_Kind_fades_25 rfl (by decide) [1, 2, 3, 0] (L' := [(0, .int k), (1, .int said), (2, .int (said + 5)), (3, .int said)]) rfl ?_
      refine X_iload_n d_Kind_fades_26 rfl rfl ?_
      refine X_iconst (v := 0) d_Kind_fades_27 rfl ?_
      refine X_bipush (v := 100) d_Kind_fades_28 rfl ?_
      refine X_callSN (v := .int (xbd said 0 100)) (rest := []) (c_X_bounded l G nn _ (by omega) said 0 100 (by decide)) lk_X_bounded mn_Kind_21 rfl (Nat.le_of_ble_eq_true rfl) (xRok (d' := d - 1) (by omega) (by decide)) ⟨Nat.le_refl _, Nat.le_refl _⟩ d_Kind_fades_30 rfl ?_
      exact X_iret rfl (congrArg (fun q => some (Value.int q)) (by simp [kFades, c_1, c_2])) (xle_rf _) d_Kind_fades_33
    ·
      refine X_iload_n d_Kind_fades_18 rfl rfl ?_
      refine X_iconst (v := 3) d_Kind_fades_19 rfl ?_
      refine X_idiv d_Kind_fades_20 (by decide) ?_
      refine X_goto (tgt := 25) d_Kind_fades_21 (by decide) ?_
      refine X_istore_n d_Kind_fades_25 rfl (by decide) [1, 2, 3, 0] (L' := [(0, .int k), (1, .int said), (2, .int (said + 5)), (3, .int ((said + 5) / 3))]) rfl ?_
      refine X_iload_n d_Kind_fades_26 rfl rfl ?_
      refine X_iconst (v := 0) d_Kind_fades_27 rfl ?_
      refine X_bipush (v := 100) d_Kind_fades_28 rfl ?_
      refine X_callSN (v := .int (xbd ((said + 5) / 3) 0 100)) (rest := []) (c_X_bounded l G nn _ (by omega) ((said + 5) / 3) 0 100 (by decide)) lk_X_bounded mn_Kind_21 rfl (Nat.le_of_ble_eq_true rfl) (xRok (d' := d - 1) (by omega) (by decide)) ⟨Nat.le_refl _, Nat.le_refl _⟩ d_Kind_fades_30 rfl ?_
      exact X_iret rfl (congrArg (fun q => some (Value.int q)) (by simp [kFades, c_1, c_2])) (xle_rf _) d_Kind_fades_33
  ·
    refine X_iload_n d_Kind_fades_9 rfl rfl ?_
    refine X_goto (tgt := 25) d_Kind_fades_10 (by decide) ?_
    refine X_istore_n d_Kind_fades_25 rfl (by decide) [1, 2, 3, 0] (L' := [(0, .int k), (1, .int said), (2, .int (said + 5)), (3, .int (said + 5))]) rfl ?_
    refine X_iload_n d_Kind_fades_26 rfl rfl ?_
    refine X_iconst (v := 0) d_Kind_fades_27 rfl ?_
    refine X_bipush (v := 100) d_Kind_fades_28 rfl ?_
    refine X_callSN (v := .int (xbd (said + 5) 0 100)) (rest := []) (c_X_bounded l G nn _ (by omega) (said + 5) 0 100 (by decide)) lk_X_bounded mn_Kind_21 rfl (Nat.le_of_ble_eq_true rfl) (xRok (d' := d - 1) (by omega) (by decide)) ⟨Nat.le_refl _, Nat.le_refl _⟩ d_Kind_fades_30 rfl ?_
    exact X_iret rfl (congrArg (fun q => some (Value.int q)) (by simp [kFades, c_1])) (xle_rf _) d_Kind_fades_33
