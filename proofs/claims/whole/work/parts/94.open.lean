-- several objects open: a list of numbers with what stands there by now
def mO (G : xG) (j : Nat) (I : xI) : List (Nat × xE) → xM
  | [] => xm G (xYn j) I
  | p :: t => xup (mO G j I t) p.1 (some p.2)
def ovG : List (Nat × xE) → Nat → Option xE
  | [], _ => none
  | p :: t, a => if a = p.1 then some p.2 else ovG t a
def ovS : List (Nat × xE) → Nat → xE → List (Nat × xE)
  | [], _, _ => []
  | p :: t, a, e => if a = p.1 then (p.1, e) :: t else p :: ovS t a e
def aR (G : xG) (t N : Nat) (rs : List Nat) (i : Nat) : xE := .inl (.inl (t, N, .inr (.inr (.inr (.inr (fun j => ((rs.take i)[j]?).map (xg G)))))))
theorem mO_g {G : xG} {j : Nat} {I : xI} {a : Nat} {e : xE} : ∀ {Ov : List (Nat × xE)}, ovG Ov a = some e → mO G j I Ov a = some e
  | [], h => by cases h
  | p :: t, h => by
    rw [ovG] at h
    rw [mO]
    by_cases c1 : a = p.1
    · rw [if_pos c1] at h
      rw [c1, xup_s]
      exact h
    · rw [if_neg c1] at h
      rw [xup_n _ _ c1]
      exact mO_g h
theorem mO_b {G : xG} {j : Nat} {I : xI} {a : Nat} : ∀ {Ov : List (Nat × xE)}, ovG Ov a = none → mO G j I Ov a = xm G (xYn j) I a
  | [], _ => rfl
  | p :: t, h => by
    rw [ovG] at h
    rw [mO]
    by_cases c1 : a = p.1
    · rw [if_pos c1] at h; cases h
    · rw [if_neg c1] at h
      rw [xup_n _ _ c1]
      exact mO_b h
theorem mO_s {G : xG} {j : Nat} {I : xI} {a : Nat} {e e' : xE} : ∀ {Ov : List (Nat × xE)}, ovG Ov a = some e → xup (mO G j I Ov) a (some e') = mO G j I (ovS Ov a e')
  | [], h => by cases h
  | p :: t, h => by
    rw [ovG] at h
    rw [ovS]
    by_cases c1 : a = p.1
    · rw [if_pos c1, mO, mO, c1, xup_up]
    · rw [if_neg c1] at h ⊢
      rw [mO, mO, xup_comm _ _ _ (Ne.symm c1), mO_s h]
theorem xYn_s {j k : Nat} (h : k ≠ j) : xYn (j + 1) k = xYn j k := by
  unfold xYn
  by_cases h3 : k < j
  · rw [if_pos h3, if_pos (by omega)]
  · rw [if_neg h3, if_neg (by omega)]
theorem mO_j {G : xG} {j a : Nat} {I : xI} (h : a ≠ j) : ∀ (Ov : List (Nat × xE)), mO G (j + 1) I Ov a = mO G j I Ov a
  | [] => by
    show (xYn (j + 1) a).map _ = (xYn j a).map _
    rw [xYn_s h]
  | p :: t => by
    rw [mO, mO]
    by_cases c1 : a = p.1
    · rw [c1, xup_s, xup_s]
    · rw [xup_n _ _ c1, xup_n _ _ c1, mO_j h t]
/-- a new object stays open -/
theorem mO_open {G : xG} {j : Nat} {I : xI} {Ov : List (Nat × xE)} {e : xE} : xup (mO G j I Ov) j (some e) = mO G (j + 1) I ((j, e) :: Ov) := by
  funext k
  rw [mO]
  by_cases h : k = j
  · rw [h, xup_s, xup_s]
  · rw [xup_n _ _ h, xup_n _ _ h, mO_j h]
/-- an open object is as the layout has it: it is closed -/
theorem mO_close {G : xG} {j a : Nat} {I : xI} {Ov : List (Nat × xE)} {e : xE} {sh : xS} (hY : xYf a = some sh) (ha : a < j) (hO : ovG Ov a = none) (he : xcell G sh (I a) = e) : mO G j I ((a, e) :: Ov) = mO G j I Ov := by
  rw [mO]
  have h : mO G j I Ov a = some e := by
    rw [mO_b hO]
    show (xYn j a).map (fun sh => xcell G sh (I a)) = _
    rw [xYn, if_pos ha, hY, ← he]
    rfl
  rw [← h]
  exact xup_self _ _
theorem mO_new {G : xG} {j : Nat} {I : xI} {Ov : List (Nat × xE)} {sh : xS} (hY : xYf j = some sh) (hO : ovG Ov j = none) : xup (mO G j I Ov) j (some (xcell G sh (I j))) = mO G (j + 1) I Ov := by
  rw [mO_open]
  exact mO_close hY (Nat.lt_succ_self j) hO rfl
theorem aR_0 (G : xG) (t N : Nat) (rs : List Nat) : aR G t N rs 0 = .inl (.inl (t, N, .inr (.inr (.inr (.inr (fun _ => none)))))) := rfl
theorem aR_s {G : xG} {rs : List Nat} {i r : Nat} (h : rs[i]? = some r) : xup (fun j => ((rs.take i)[j]?).map (xg G)) i (some (xg G r)) = fun j => ((rs.take (i + 1))[j]?).map (xg G) := by
  funext j
  by_cases e : j = i
  · rw [e, xup_s, List.getElem?_take, if_pos (by omega), h]
    rfl
  · rw [xup_n _ _ e, List.getElem?_take, List.getElem?_take]
    by_cases e2 : j < i
    · rw [if_pos e2, if_pos (by omega)]
    · rw [if_neg e2, if_neg (by omega)]
theorem c_Head_init (l : Launch) (G : xG) {d : Nat} (hd : 1 ≤ d) (n a : Nat) (M : xM) : XM l G d y_Head_init b_Head_init 1 none 0 0 xK0 [.ref (xg G a)] n M none n M := by
  refine XM.of (by decide) (Nat.le_of_ble_eq_true rfl) (L := [(0, .ref (xg G a))]) rfl ?_
  refine X_aload_n d_Head_init_0 rfl rfl ?_
  refine X_objInit ml_Head_3 oi_inst oi_code ⟨hd, Nat.le_trans (m := 64) (Nat.le_of_ble_eq_true rfl) (show 64 ≤ 64 * d by omega)⟩ d_Head_init_1 ?_
  exact X_vret rfl rfl (xle_rf _) d_Head_init_4
abbrev xAr (N : Nat) : xE := .inl (.inl (0, N, .inl (fun _ => 0)))
theorem c_Text_init (l : Launch) (G : xG) {d : Nat} (hd : 1 ≤ d) (n a : Nat) (M : xM) (ha : a < n) (hM : M a = some (.inl (.inr (2, [.null, .null, .null, .int 0, .int 0])))) : XM l G d y_Text_init b_Text_init 1 none 3 203 xK0 [.ref (xg G a)] n M none (n + 3) (xup (xup (xup (xup M a (some (.inl (.inr (2, [.ref (xg G n), .ref (xg G (n + 1)), .ref (xg G (n + 2)), .int 0, .int 0]))))) n (some (xAr 160))) (n + 1) (some (xAr 3))) (n + 2) (some (xAr 40))) := by
  refine XM.of (by decide) (Nat.le_of_ble_eq_true rfl) (L := [(0, .ref (xg G a))]) rfl ?_
  refine X_aload_n d_Text_init_0 rfl rfl ?_
  refine X_objInit ml_Text_3 oi_inst oi_code ⟨hd, Nat.le_trans (m := 64) (Nat.le_of_ble_eq_true rfl) (show 64 ≤ 64 * d by omega)⟩ d_Text_init_1 ?_
  refine X_aload_n d_Text_init_4 rfl rfl ?_
  refine X_sipush (v := 160) d_Text_init_5 rfl ?_
  refine X_newI (N' := 160) ac_int (by decide) rfl (by decide) (Nat.le_of_ble_eq_true rfl) (Nat.le_of_ble_eq_true rfl) d_Text_init_8 ?_
  refine X_putfieldF 0 fp_Text_9 rfl ((xup_n _ _ (by omega)).trans hM) rfl rfl (Nat.le_of_ble_eq_true rfl) d_Text_init_10 ?_
  refine X_aload_n d_Text_init_13 rfl rfl ?_
  refine X_iconst (v := 3) d_Text_init_14 rfl ?_
  refine X_newI (N' := 3) ac_int (by decide) rfl (by decide) (Nat.le_of_ble_eq_true rfl) (Nat.le_of_ble_eq_true rfl) d_Text_init_15 ?_
  refine X_putfieldF 1 fp_Text_15 rfl ((xup_n _ _ (by omega)).trans (xup_s _ _ _)) rfl rfl (Nat.le_of_ble_eq_true rfl) d_Text_init_17 ?_
  refine X_aload_n d_Text_init_20 rfl rfl ?_
  refine X_bipush (v := 40) d_Text_init_21 rfl ?_
  refine X_newI (N' := 40) ac_int (by decide) rfl (by decide) (Nat.le_of_ble_eq_true rfl) (Nat.le_of_ble_eq_true rfl) d_Text_init_23 ?_
  refine X_putfieldF 2 fp_Text_18 rfl ((xup_n _ _ (by omega)).trans (xup_s _ _ _)) rfl rfl (Nat.le_of_ble_eq_true rfl) d_Text_init_25 ?_
  refine X_vret rfl rfl (xle_of ?_) d_Text_init_28
  rw [xup_comm _ _ _ (show n + 2 ≠ a by omega), xup_up, xup_comm _ _ _ (show n + 1 ≠ a by omega), xup_up, xup_comm _ _ _ (show n ≠ a by omega)]
  rfl
theorem c_Sheet_init (l : Launch) (G : xG) {d : Nat} (hd : 1 ≤ d) (n a : Nat) (M : xM) (ha : a < n) (hM : M a = some (.inl (.inr (4, [.null, .int 0, .int 0])))) : XM l G d y_Sheet_init b_Sheet_init 1 none 1 40 xK0 [.ref (xg G a)] n M none (n + 1) (xup (xup M a (some (.inl (.inr (4, [.ref (xg G n), .int (-1), .int 0]))))) n (some (xAr 40))) := by
  refine XM.of (by decide) (Nat.le_of_ble_eq_true rfl) (L := [(0, .ref (xg G a))]) rfl ?_
  refine X_aload_n d_Sheet_init_0 rfl rfl ?_
  refine X_objInit ml_Sheet_3 oi_inst oi_code ⟨hd, Nat.le_trans (m := 64) (Nat.le_of_ble_eq_true rfl) (show 64 ≤ 64 * d by omega)⟩ d_Sheet_init_1 ?_
  refine X_aload_n d_Sheet_init_4 rfl rfl ?_
  refine X_bipush (v := 40) d_Sheet_init_5 rfl ?_
  refine X_newI (N' := 40) ac_int (by decide) rfl (by decide) (Nat.le_of_ble_eq_true rfl) (Nat.le_of_ble_eq_true rfl) d_Sheet_init_7 ?_
  refine X_putfieldF 0 fp_Sheet_9 rfl ((xup_n _ _ (by omega)).trans hM) rfl rfl (Nat.le_of_ble_eq_true rfl) d_Sheet_init_9 ?_
  refine X_aload_n d_Sheet_init_12 rfl rfl ?_
  refine X_iconst (v := -1) d_Sheet_init_13 rfl ?_
  refine X_putfield 1 fp_Sheet_15 (xup_s _ _ _) rfl rfl (Nat.le_of_ble_eq_true rfl) d_Sheet_init_14 ?_
  refine X_aload_n d_Sheet_init_17 rfl rfl ?_
  refine X_iconst (v := 0) d_Sheet_init_18 rfl ?_
  refine X_putfield 2 fp_Sheet_19 (xup_s _ _ _) rfl rfl (Nat.le_of_ble_eq_true rfl) d_Sheet_init_19 ?_
  refine X_vret rfl rfl (xle_of ?_) d_Sheet_init_22
  rw [xup_up, xup_up, xup_comm _ _ _ (show n ≠ a by omega)]
  rfl
