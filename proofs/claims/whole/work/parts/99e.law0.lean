theorem w_law_0 (l : Launch) (G : xG) (nm : String) {P : State → Prop} {rt : Option FieldType} {Z : List Frame → Array Value → State → State → Prop} {q1 v1 q v b : Nat} (hTo : xTo G P (PX G q1 v1 q v)) (kk : ∀ I, RI I → XW l G room_1 ⟨"RoundAndRoundLaw", nm, ""⟩ code 4 rt (xKL P) Z 75 (xm G xYf I) 75 4269 16 [(0, .ref b), (1, .ref (xg G 0)), (2, .ref (xg G 59))] []) : XW l G room_1 ⟨"RoundAndRoundLaw", nm, ""⟩ code 4 rt (xKL P) Z 0 (fun _ => none) 0 0 0 [(0, .ref b)] [] := by
  have e0 : (fun _ => none : xM) = mO G 0 iZ [] := by
    funext k
    show none = xm G (xYn 0) iZ k
    unfold xm xYn
    rw [if_neg (Nat.not_lt_zero k)]
    rfl
  rw [e0]
  refine O_newO (ci := 0) (fs := X_raw) t_X t_X_ok rfl i_X cl_Law_7 is_X in_X (fun j hj => by match j, hj with | 0, _ => rfl | 1, _ => rfl | 2, _ => rfl | 3, _ => rfl | 4, _ => rfl | 5, _ => rfl | 6, _ => rfl | 7, _ => rfl | 8, _ => rfl | 9, _ => rfl | 10, _ => rfl | 11, _ => rfl | 12, _ => rfl | 13, _ => rfl | 14, _ => rfl | m + 15, h => exact absurd h (by omega)) (Nat.le_of_ble_eq_true rfl) (Nat.le_of_ble_eq_true rfl) d_law_0 ?_
  refine X_dup d_law_3 rfl ?_
  refine X_callIJ (rest := [.ref (xg G 0)]) hTo (c_X_init l G (d := 100) (by decide) q1 v1 q v) lk_X_init ml_Law_9 rfl (Nat.le_of_ble_eq_true rfl) ⟨(Nat.le_of_ble_eq_true rfl), (Nat.le_of_ble_eq_true rfl)⟩ ⟨(Nat.le_of_ble_eq_true rfl), (Nat.le_of_ble_eq_true rfl)⟩ d_law_4 rfl ?_
  refine X_astore_n d_law_7 rfl (by decide) [1, 0] (L' := [(0, .ref b), (1, .ref (xg G 0))]) rfl ?_
  refine X_new (ci := 5) (fs := vMod G 60) t_Model t_Model_ok rfl i_Model cl_Law_10 is_Model in_Model (fun j hj => by match j, hj with | 0, _ => rfl | 1, _ => rfl | 2, _ => rfl | 3, _ => rfl | 4, _ => rfl | 5, _ => rfl | 6, _ => rfl | 7, _ => rfl | 8, _ => rfl | 9, _ => rfl | 10, _ => rfl | 11, _ => rfl | 12, _ => rfl | 13, _ => rfl | 14, _ => rfl | 15, _ => rfl | 16, _ => rfl | 17, _ => rfl | 18, _ => rfl | 19, _ => rfl | 20, _ => rfl | 21, _ => rfl | 22, _ => rfl | 23, _ => rfl | 24, _ => rfl | 25, _ => rfl | 26, _ => rfl | 27, _ => rfl | 28, _ => rfl | 29, _ => rfl | 30, _ => rfl | 31, _ => rfl | 32, _ => rfl | 33, _ => rfl | m + 34, h => exact absurd h (by omega)) (Nat.le_of_ble_eq_true rfl) (Nat.le_of_ble_eq_true rfl) d_law_8 ?_
  rw [mR_start]
  refine X_dup d_law_11 rfl ?_
  obtain ⟨J', cm, kp, k8, k64, k0, k1, k2, k3⟩ := c_Model_init l G (d := 100) (by decide) jX
  refine X_callI (rest := [.ref (xg G 59)]) cm lk_Model_init ml_Law_12 rfl (Nat.le_of_ble_eq_true rfl) ⟨(Nat.le_of_ble_eq_true rfl), (Nat.le_of_ble_eq_true rfl)⟩ ⟨(Nat.le_of_ble_eq_true rfl), (Nat.le_of_ble_eq_true rfl)⟩ d_law_12 rfl ?_
  refine X_astore_n d_law_15 rfl (by decide) [1, 2, 0] (L' := [(0, .ref b), (1, .ref (xg G 0)), (2, .ref (xg G 59))]) rfl ?_
  exact kk J' (RI_start kp k8 k64 k0 k1 k2 k3)
