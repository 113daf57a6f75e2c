theorem xshr0 (x : Int32) : x >>> ((0 : Int32) &&& 31) = x := by
  have e : ((0 : Int32) &&& 31) = 0 := rfl
  rw [e]
  exact Int32.shiftRight_zero
/-- the entry i of the literal is a char as it stands -/
def xAsc (f : Nat → Int32) (i : Nat) : Prop := ((f i &&& 255).toUInt32 % 65536).toInt32 = f i ∧ narrow .char (.int (f i)) = .int (f i)
section XJC
variable {l : Launch} {G : xG} {d n q v N : Nat} {M : xM} {f : Nat → Int32} {P : State → Prop}
theorem c_J_pcheck (hd : 1 ≤ d) {i : Nat} (hi : i < N) (hN : N < 2 ^ 31) (a : Nat) : XM l G d y_J_pcheck b_J_pcheck 3 (some .int) 0 0 (xKL P) [.int (nI i), .int (nI N), .ref a] n M (some (.int (nI i))) n M := by
  refine XM.of (by decide) (Nat.le_of_ble_eq_true rfl) (L := [(0, .int (nI i)), (1, .int (nI N)), (2, .ref a)]) rfl ?_
  refine X_iload_n d_J_pcheck_0 rfl rfl ?_
  refine X_if_lt (tgt := 9) d_J_pcheck_1 (by decide) (fun z => absurd z (nI_pos (by omega))) (fun _ => ?_)
  refine X_iload_n d_J_pcheck_4 rfl rfl ?_
  refine X_iload_n d_J_pcheck_5 rfl rfl ?_
  refine X_icmp_lt (tgt := 16) d_J_pcheck_6 (by decide) (fun _ => ?_) (fun z => absurd (nI_lt hi (by omega)) z)
  refine X_iload_n d_J_pcheck_16 rfl rfl ?_
  exact X_iret rfl rfl (xle_rf _) d_J_pcheck_17
theorem c_J_pcheckN (hd : 1 ≤ d) {i : Nat} (hi : i < N) (hN : N < 2 ^ 31) : XM l G d y_J_pcheck b_J_pcheck 3 (some .int) 0 0 (xKL P) [.int (nI i), .int (nI N), .null] n M (some (.int (nI i))) n M := by
  refine XM.of (by decide) (Nat.le_of_ble_eq_true rfl) (L := [(0, .int (nI i)), (1, .int (nI N)), (2, .null)]) rfl ?_
  refine X_iload_n d_J_pcheck_0 rfl rfl ?_
  refine X_if_lt (tgt := 9) d_J_pcheck_1 (by decide) (fun z => absurd z (nI_pos (by omega))) (fun _ => ?_)
  refine X_iload_n d_J_pcheck_4 rfl rfl ?_
  refine X_iload_n d_J_pcheck_5 rfl rfl ?_
  refine X_icmp_lt (tgt := 16) d_J_pcheck_6 (by decide) (fun _ => ?_) (fun z => absurd (nI_lt hi (by omega)) z)
  refine X_iload_n d_J_pcheck_16 rfl rfl ?_
  exact X_iret rfl rfl (xle_rf _) d_J_pcheck_17
theorem c_J_check (hd : 2 ≤ d) {i : Nat} (hi : i < N) (hN : N < 2 ^ 31) : XM l G d y_J_check b_J_check 2 none 0 0 (xKL (xJ G q v N f)) [.int (nI i), .int (nI N)] n M none n M := by
  refine XM.of (by decide) (Nat.le_of_ble_eq_true rfl) (L := [(0, .int (nI i)), (1, .int (nI N))]) rfl ?_
  refine X_iload_n d_J_check_0 rfl rfl ?_
  refine X_iload_n d_J_check_1 rfl rfl ?_
  refine X_gstR (fun s h => h.2.1) (xT_1 121 rfl rfl) d_J_check_2 (fun a => ?_) ?_
  · refine X_callSJ (rest := []) xJ_to (c_J_pcheck (d := d - 1) (P := xJ G q v N f) (by omega) hi hN a) lk_J_pcheck (xT_1 123 rfl rfl) rfl (Nat.le_of_ble_eq_true rfl) (xRok (d' := d - 1) (by omega) (by decide)) ⟨Nat.le_refl _, Nat.le_refl _⟩ d_J_check_5 rfl ?_
    refine X_pop d_J_check_8 rfl ?_
    exact X_vret rfl rfl (xle_rf _) d_J_check_9
  · refine X_callSJ (rest := []) xJ_to (c_J_pcheckN (d := d - 1) (P := xJ G q v N f) (by omega) hi hN) lk_J_pcheck (xT_1 123 rfl rfl) rfl (Nat.le_of_ble_eq_true rfl) (xRok (d' := d - 1) (by omega) (by decide)) ⟨Nat.le_refl _, Nat.le_refl _⟩ d_J_check_5 rfl ?_
    refine X_pop d_J_check_8 rfl ?_
    exact X_vret rfl rfl (xle_rf _) d_J_check_9
theorem c_J_lcharAt (hd : 3 ≤ d) {i : Nat} (hi : i < N) (hN : N < 2 ^ 31) (ha : xAsc f i) : XM l G d y_J_lcharAt b_J_lcharAt 2 (some .char) 0 0 (xKL (xJ G q v N f)) [.ref v, .int (nI i)] n M (some (.int (f i))) n M := by
  refine XM.of (by decide) (Nat.le_of_ble_eq_true rfl) (L := [(0, .ref v), (1, .int (nI i))]) rfl ?_
  refine X_iload_n d_J_lcharAt_0 rfl rfl ?_
  refine X_aload_n d_J_lcharAt_1 rfl rfl ?_
  refine X_tlenJ (w := nI N) (fun s h => h.2.2.2.2.2) rfl d_J_lcharAt_2 ?_
  refine X_callSJ (rest := []) xJ_to (c_J_check (d := d - 1) (q := q) (v := v) (f := f) (by omega) hi hN) lk_J_check (xT_1 118 rfl rfl) rfl (Nat.le_of_ble_eq_true rfl) (xRok (d' := d - 1) (by omega) (by decide)) ⟨Nat.le_refl _, Nat.le_refl _⟩ d_J_lcharAt_3 rfl ?_
  refine X_aload_n d_J_lcharAt_6 rfl rfl ?_
  refine X_iload_n d_J_lcharAt_7 rfl rfl ?_
  refine X_tbJ (v := .int (f i)) (fun s h => h.2.2.2.2.2) (vp_in_nI hi hN) (by rw [nI_cl (by omega)]) d_J_lcharAt_8 ?_
  refine X_sipush (v := 255) d_J_lcharAt_9 rfl ?_
  refine X_iand d_J_lcharAt_12 ?_
  refine X_i2c ha.1 d_J_lcharAt_13 ?_
  exact X_nret rfl ha.2 rfl (xle_rf _) d_J_lcharAt_14
theorem c_J_isLatin1 (hd : 1 ≤ d) : XM l G d y_J_isLatin1 b_J_isLatin1 1 (some .boolean) 0 0 (xKL (xJ G q v N f)) [.ref q] n M (some (.int 1)) n M := by
  refine XM.of (by decide) (Nat.le_of_ble_eq_true rfl) (L := [(0, .ref q)]) rfl ?_
  refine X_gstJ (v := .int 1) (fun s h => h.1) (xT_1 105 rfl rfl) d_J_isLatin1_0 ?_
  refine X_if_eq (tgt := 17) d_J_isLatin1_3 (by decide) (fun z => absurd z (by decide)) (fun _ => ?_)
  refine X_aload_n d_J_isLatin1_6 rfl rfl ?_
  refine X_getJ (v := .int 0) (fun s h => h.2.2.2.1) (xT_5 187 rfl rfl) d_J_isLatin1_7 ?_
  refine X_if_ne (tgt := 17) d_J_isLatin1_10 (by decide) (fun z => absurd rfl z) (fun _ => ?_)
  refine X_iconst (v := 1) d_J_isLatin1_13 rfl ?_
  refine X_goto (tgt := 18) d_J_isLatin1_14 (by decide) ?_
  exact X_nret rfl rfl rfl (xle_rf _) d_J_isLatin1_18
theorem c_J_coder (hd : 1 ≤ d) : XM l G d y_J_coder b_J_coder 1 (some .byte) 0 0 (xKL (xJ G q v N f)) [.ref q] n M (some (.int 0)) n M := by
  refine XM.of (by decide) (Nat.le_of_ble_eq_true rfl) (L := [(0, .ref q)]) rfl ?_
  refine X_gstJ (v := .int 1) (fun s h => h.1) (xT_1 105 rfl rfl) d_J_coder_0 ?_
  refine X_if_eq (tgt := 13) d_J_coder_3 (by decide) (fun z => absurd z (by decide)) (fun _ => ?_)
  refine X_aload_n d_J_coder_6 rfl rfl ?_
  refine X_getJ (v := .int 0) (fun s h => h.2.2.2.1) (xT_5 187 rfl rfl) d_J_coder_7 ?_
  refine X_goto (tgt := 14) d_J_coder_10 (by decide) ?_
  exact X_nret rfl rfl rfl (xle_rf _) d_J_coder_14
theorem c_J_charAt (hd : 4 ≤ d) {i : Nat} (hi : i < N) (hN : N < 2 ^ 31) (ha : xAsc f i) : XM l G d y_J_charAt b_J_charAt 2 (some .char) 0 0 (xKL (xJ G q v N f)) [.ref q, .int (nI i)] n M (some (.int (f i))) n M := by
  refine XM.of (by decide) (Nat.le_of_ble_eq_true rfl) (L := [(0, .ref q), (1, .int (nI i))]) rfl ?_
  refine X_aload_n d_J_charAt_0 rfl rfl ?_
  refine X_callVJ (rest := []) (As := []) xJ_to (fun s h => h.2.2.1) (c_J_isLatin1 (d := d - 1) (by omega)) lk_J_isLatin1 (xT_1 111 rfl rfl) rfl (Nat.le_of_ble_eq_true rfl) (xRok (d' := d - 1) (by omega) (by decide)) ⟨Nat.le_refl _, Nat.le_refl _⟩ d_J_charAt_1 rfl ?_
  refine X_if_eq (tgt := 16) d_J_charAt_4 (by decide) (fun z => absurd z (by decide)) (fun _ => ?_)
  refine X_aload_n d_J_charAt_7 rfl rfl ?_
  refine X_getJ (v := .ref v) (fun s h => h.2.2.2.2.1) (xT_5 186 rfl rfl) d_J_charAt_8 ?_
  refine X_iload_n d_J_charAt_11 rfl rfl ?_
  refine X_callSJ (rest := []) xJ_to (c_J_lcharAt (d := d - 1) (q := q) (by omega) hi hN ha) lk_J_lcharAt (xT_1 115 rfl rfl) rfl (Nat.le_of_ble_eq_true rfl) (xRok (d' := d - 1) (by omega) (by decide)) ⟨Nat.le_refl _, Nat.le_refl _⟩ d_J_charAt_12 rfl ?_
  exact X_nret rfl ha.2 rfl (xle_rf _) d_J_charAt_15
theorem c_J_length (hd : 2 ≤ d) : XM l G d y_J_length b_J_length 1 (some .int) 0 0 (xKL (xJ G q v N f)) [.ref q] n M (some (.int (nI N))) n M := by
  refine XM.of (by decide) (Nat.le_of_ble_eq_true rfl) (L := [(0, .ref q)]) rfl ?_
  refine X_aload_n d_J_length_0 rfl rfl ?_
  refine X_getJ (v := .ref v) (fun s h => h.2.2.2.2.1) (xT_5 186 rfl rfl) d_J_length_1 ?_
  refine X_tlenJ (w := nI N) (fun s h => h.2.2.2.2.2) rfl d_J_length_4 ?_
  refine X_aload_n d_J_length_5 rfl rfl ?_
  refine X_callVJ (rest := [.int (nI N)]) (As := []) xJ_to (fun s h => h.2.2.1) (c_J_coder (d := d - 1) (by omega)) lk_J_coder (xT_1 101 rfl rfl) rfl (Nat.le_of_ble_eq_true rfl) (xRok (d' := d - 1) (by omega) (by decide)) ⟨Nat.le_refl _, Nat.le_refl _⟩ d_J_length_6 rfl ?_
  refine X_ishr d_J_length_9 ?_
  rw [xshr0]
  exact X_iret rfl rfl (xle_rf _) d_J_length_10
end XJC
