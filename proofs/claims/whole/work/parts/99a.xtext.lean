def jT (i : Nat) : xI := xw (xup iZ 12 (xla (wFirst.take i))) 11 2 (nI i)
theorem jT_0 : jT 0 = iZ := by
  unfold jT
  funext a
  by_cases h : a = 11
  · rw [h, xw_is, xup_s]
    funext k
    by_cases h2 : k = 2
    · rw [h2, xup_s]; rfl
    · rw [xup_n _ _ h2]; rfl
  · rw [xw_row _ _ _ h]
    by_cases h2 : a = 12
    · rw [h2, xup_s]; rfl
    · rw [xup_n _ _ h2]
theorem jT_2 (i : Nat) : jT i 11 2 = nI i := by rw [jT, xw_s]
theorem jT_12 (i : Nat) : jT i 12 = xla (wFirst.take i) := by rw [jT, xw_row _ _ _ (by decide), xup_s]
theorem jT_s {i : Nat} (hi : i < 48) : iTake (xla wFirst i) (jT i) = jT (i + 1) := by
  have hw : wFirst[i]? = some (xla wFirst i) := by
    unfold xla
    rw [List.getD_eq_getElem?_getD, List.getElem?_eq_getElem (show i < wFirst.length from hi)]
    rfl
  have e1 : iTake (xla wFirst i) (jT i) = xw (xw (jT i) 12 i (xla wFirst i)) 11 2 (nI (i + 1)) := by
    rw [iTake, if_pos (by rw [jT_2]; exact ⟨(nI_nn (by omega)).2.2, (nI_ltI (b := 160) (by omega) (by decide)).mpr (by omega)⟩), jT_2, nI_cl (by omega), nI_1]
  rw [e1, xw_is (jT i) 12, jT_12, xla_take hw]
  funext a
  by_cases h : a = 11
  · have a1 : ∀ m, jT m 11 = xup (iZ 11) 2 (nI m) := fun m => by rw [jT, xw_is, xup_s, xup_n _ _ (show (11 : Nat) ≠ 12 by decide)]
    rw [h, a1, xw_is, xup_s, xup_n _ _ (show (11 : Nat) ≠ 12 by decide), a1, xup_up]
  · rw [jT, jT, xw_row _ _ _ h, xw_row _ _ _ h]
    by_cases h2 : a = 12
    · rw [h2, xup_s, xup_s]
    · rw [xup_n _ _ h2, xup_n _ _ h2, xw_row _ _ _ h, xup_n _ _ h2]
/-- the class' memory when it has been made -/
def jX : xI := xw (xw (iRead 27 (jT 48)) 11 2 0) 0 11 1
theorem xYok_c : xYok xYc := by
  intro k hk _ _ _
  show (xYl.take 59)[k]? = xYl[k]?
  rw [List.getElem?_take, if_pos hk]
theorem wl_X_init (l : Launch) (G : xG) {d : Nat} (hd : 8 ≤ d) (q1 v1 q v : Nat) {Z : List Frame → Array Value → State → State → Prop} (kk : XW l G (xR d 58 2049) y_X_init b_X_init 2 none (xKL (PX G q1 v1 q v)) Z 59 (xm G xYc (jT 48)) 58 2049 247 [(0, .ref (xg G 0))] []) : ∀ (k i : Nat), i + k = 48 → XW l G (xR d 58 2049) y_X_init b_X_init 2 none (xKL (PX G q1 v1 q v)) Z 59 (xm G xYc (jT i)) 58 2049 219 [(0, .ref (xg G 0)), (1, .int (nI i))] [] := by
  intro k
  induction k with
  | zero =>
    intro i hi
    have e : i = 48 := by omega
    rw [e]
    refine X_iload_n d_X_init_219 rfl rfl ?_
    refine X_ldcJ (b := q1) (fun s h => h.1) d_X_init_220 ?_
    refine X_callVJ (rest := [.int (nI 48)]) (As := []) PX_to1 (fun s h => h.2.1.2.2.1) (c_J_length (d := d - 1) (v := v1) (N := 48) (f := xla wFirst) (by omega)) lk_J_length (xT_1 199 rfl rfl) rfl (Nat.le_of_ble_eq_true rfl) (xRok (d' := d - 1) (by omega) (by decide)) ⟨Nat.le_refl _, Nat.le_refl _⟩ d_X_init_222 rfl ?_
    exact X_icmp_ge (tgt := 247) d_X_init_225 (by decide) (fun _ => X_sub [0] rfl kk) (fun z => absurd (Int32.le_refl _) z)
  | succ k ih =>
    intro i hi
    have hi2 : i < 48 := by omega
    refine X_iload_n d_X_init_219 rfl rfl ?_
    refine X_ldcJ (b := q1) (fun s h => h.1) d_X_init_220 ?_
    refine X_callVJ (rest := [.int (nI i)]) (As := []) PX_to1 (fun s h => h.2.1.2.2.1) (c_J_length (d := d - 1) (v := v1) (N := 48) (f := xla wFirst) (by omega)) lk_J_length (xT_1 199 rfl rfl) rfl (Nat.le_of_ble_eq_true rfl) (xRok (d' := d - 1) (by omega) (by decide)) ⟨Nat.le_refl _, Nat.le_refl _⟩ d_X_init_222 rfl ?_
    refine X_icmp_ge (tgt := 247) d_X_init_225 (by decide) (fun z => absurd (nI_done (T := 48) (by omega) (by decide) z) (by omega)) (fun _ => ?_)
    refine X_aload_n d_X_init_228 rfl rfl ?_
    refine X_getR (r := 11) fg_X_44 (show xYc 0 = some sX from rfl) rfl d_X_init_229 ?_
    refine X_ldcJ (b := q1) (fun s h => h.1) d_X_init_232 ?_
    refine X_iload_n d_X_init_234 rfl rfl ?_
    refine X_callVJ (rest := [.ref (xg G 11)]) PX_to1 (fun s h => h.2.1.2.2.1) (c_J_charAt (d := d - 1) (v := v1) (N := 48) (f := xla wFirst) (by omega) hi2 (by decide) ⟨wFi_a i hi2, wFi_n i hi2⟩) lk_J_charAt (xT_1 200 rfl rfl) rfl (Nat.le_of_ble_eq_true rfl) (xRok (d' := d - 1) (by omega) (by decide)) ⟨Nat.le_refl _, Nat.le_refl _⟩ d_X_init_235 rfl ?_
    refine X_callVv (rest := []) (k_Reader_take_z l G (d := d - 1) 59 (by omega) (jT i) (xla wFirst i)) lk_Reader_take ml_X_87 (xm_obj (show xYc 11 = some (sReader 12 13) from rfl)) rfl rfl (Nat.le_of_ble_eq_true rfl) (xRok (d' := d - 1) (by omega) (by decide)) ⟨Nat.le_refl _, Nat.le_refl _⟩ d_X_init_238 rfl ?_
    rw [jT_s hi2]
    refine X_iinc d_X_init_241 rfl (v := nI (i + 1)) (by rw [← nI_1]; rfl) (by decide) [1, 0] (L' := [(0, .ref (xg G 0)), (1, .int (nI (i + 1)))]) rfl ?_
    refine X_goto (tgt := 219) d_X_init_244 (by decide) ?_
    exact ih (i + 1) (by omega)
theorem c_X_init (l : Launch) (G : xG) {d : Nat} (hd : 42 ≤ d) (q1 v1 q v : Nat) : XM l G d y_X_init b_X_init 2 none 58 2049 (xKL (PX G q1 v1 q v)) [.ref (xg G 0)] 1 (mO G 1 iZ [(0, .inl (.inr (0, X_raw)))]) none 59 (xm G xYc jX) := by
  refine XM.of (by decide) (Nat.le_of_ble_eq_true rfl) (L := [(0, .ref (xg G 0))]) rfl ?_
  refine w_X_init l G (by omega) q1 v1 q v ?_
  refine X_iconst (v := 0) d_X_init_217 rfl ?_
  refine X_istore_n d_X_init_218 rfl (by decide) [1, 0] (L' := [(0, .ref (xg G 0)), (1, .int 0)]) rfl ?_
  have key := wl_X_init l G (d := d) (by omega) q1 v1 q v (Z := xZ G 59 (xm G xYc jX) none 58 2049) ?_ 48 0 rfl
  · rw [jT_0] at key
    exact key
  refine X_aload_n d_X_init_247 rfl rfl ?_
  refine X_getR (r := 11) fg_X_44 (show xYc 0 = some sX from rfl) rfl d_X_init_248 ?_
  refine X_aload_n d_X_init_251 rfl rfl ?_
  refine X_iconst (v := nI 0) d_X_init_252 rfl ?_
  refine X_callV (v := .ref (xg G 27)) (rest := [.ref (xg G 11)]) (c_X_textAt l G (d := d - 1) 59 xYc (jT 48) (by omega) xYok_c 0 (by decide)) lk_X_textAt ml_X_91 (xm_obj (show xYc 0 = some sX from rfl)) rfl rfl (Nat.le_of_ble_eq_true rfl) (xRok (d' := d - 1) (by omega) (by decide)) ⟨Nat.le_refl _, Nat.le_refl _⟩ d_X_init_253 rfl ?_
  refine X_callV (v := .int (iRead 27 (jT 48) 11 8)) (rest := []) (k_Reader_read_z l G (d := d - 1) 59 (by omega) (n := 48) (t := 27) ⟨rfl, rfl, rfl, by decide⟩ (jT 48) (by decide) (jT_2 48)) lk_Reader_read ml_X_95 (xm_obj (show xYc 11 = some (sReader 12 13) from rfl)) rfl rfl (Nat.le_of_ble_eq_true rfl) (xRok (d' := d - 1) (by omega) (by decide)) ⟨Nat.le_refl _, Nat.le_refl _⟩ d_X_init_256 rfl ?_
  refine X_pop d_X_init_259 rfl ?_
  refine X_aload_n d_X_init_260 rfl rfl ?_
  refine X_getR (r := 11) fg_X_44 (show xYc 0 = some sX from rfl) rfl d_X_init_261 ?_
  refine X_callVv (rest := []) (k_Reader_empty_z l G (d := d - 1) 59 (by omega) (iRead 27 (jT 48))) lk_Reader_empty ml_X_99 (xm_obj (show xYc 11 = some (sReader 12 13) from rfl)) rfl rfl (Nat.le_of_ble_eq_true rfl) (xRok (d' := d - 1) (by omega) (by decide)) ⟨Nat.le_refl _, Nat.le_refl _⟩ d_X_init_264 rfl ?_
  refine X_aload_n d_X_init_267 rfl rfl ?_
  refine X_iconst (v := 1) d_X_init_268 rfl ?_
  refine X_putI fp_X_63 (show xYc 0 = some sX from rfl) rfl d_X_init_269 ?_
  exact X_vret rfl rfl (xle_rf _) d_X_init_272
