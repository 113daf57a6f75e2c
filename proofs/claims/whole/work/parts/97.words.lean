def wBy : List Int32 := [98, 117, 105, 108, 100, 115, 32, 102, 97, 100, 101, 115, 32, 98, 101, 110, 100, 115, 32, 111, 114, 32, 97, 110, 100, 32, 110, 111, 116, 32, 115, 112, 101, 101, 100, 32, 99, 97, 107, 101, 32, 117, 115, 101, 100, 32, 109, 111, 114, 101, 32, 115, 101, 110, 115, 101, 32, 101, 121, 101, 115]
def wStp (x : Int32) (s : Nat × List Int64) : Nat × List Int64 := if x = 32 then (s.1 + 1, s.2) else (s.1, s.2.set s.1 (s.2.getD s.1 0 * 32 + x.toInt64 - 97 + 1))
def jL : Nat → Nat × List Int64
  | 0 => (0, List.replicate 12 0)
  | i + 1 => wStp (xla wBy i) (jL i)
abbrev wWd : List Int64 := [89436307, 6328499, 2275475, 498, 1476, 14836, 20452516, 99685, 707748, 441925, 20101733, 189619]
theorem jL_61 : jL 61 = (11, wWd) := by decide +kernel
theorem jL_b : ∀ i, i < 62 → (jL i).1 < 12 ∧ (jL i).2.length = 12 := by decide +kernel
theorem wBy_a : ∀ i, i < 61 → ((xla wBy i &&& 255).toUInt32 % 65536).toInt32 = xla wBy i := by decide +kernel
theorem wBy_n : ∀ i, i < 61 → narrow .char (.int (xla wBy i)) = .int (xla wBy i) := by decide +kernel
theorem wFi_a : ∀ i, i < 48 → ((xla wFirst i &&& 255).toUInt32 % 65536).toInt32 = xla wFirst i := by decide +kernel
theorem wFi_n : ∀ i, i < 48 → narrow .char (.int (xla wFirst i)) = .int (xla wFirst i) := by decide +kernel
theorem xup_ls {ls : List Int64} {w : Nat} {x : Int64} (h : w < ls.length) : xup (fun j => ls.getD j 0) w x = fun j => (ls.set w x).getD j 0 := by
  funext j
  rw [List.getD_eq_getElem?_getD, List.getElem?_set]
  by_cases e : j = w
  · subst e
    rw [xup_s, if_pos rfl, if_pos h]
    rfl
  · rw [xup_n _ _ e, if_neg (fun z => e z.symm), List.getD_eq_getElem?_getD]
def PR (G : xG) (q v : Nat) (U : State) : Prop := vk_R "RoundAndRound$Reader" 19 "builds fades bends or and not speed cake used more sense eyes" q U ∧ xJ G q v 61 (xla wBy) U
theorem PR_to {G : xG} {q v : Nat} : xTo G (PR G q v) (xJ G q v 61 (xla wBy)) := ⟨fun s U h hW hk => xJ_to.1 s U h.2 hW hk, xJ_to.2⟩
abbrev rdN : List Value := [.null, .null, .int 0, .int 0, .int 0, .int 0, .int 0, .int 0, .int 0]
abbrev rdF (G : xG) (n : Nat) : List Value := [.ref (xg G n), .ref (xg G (n + 1)), .int 0, .int 0, .int 0, .int 0, .int 0, .int 0, .int 0]
def MW (G : xG) (M : xM) (a n : Nat) (ls : List Int64) : xM := xup (xup (xup M a (some (.inl (.inr (3, rdF G n))))) n (some (xAr 160))) (n + 1) (some (.inl (.inl (1, 12, .inr (.inl (fun j => ls.getD j 0))))))
theorem MW_a {G : xG} {M : xM} {a n : Nat} {ls : List Int64} (ha : a < n) : MW G M a n ls a = some (.inl (.inr (3, rdF G n))) := by rw [MW, xup_n _ _ (by omega), xup_n _ _ (by omega), xup_s]
theorem MW_w {G : xG} {M : xM} {a n : Nat} {ls : List Int64} : MW G M a n ls (n + 1) = some (.inl (.inl (1, 12, .inr (.inl (fun j => ls.getD j 0))))) := xup_s _ _ _
theorem wl_Reader_init (l : Launch) (G : xG) {d : Nat} (hd : 5 ≤ d) (q v n a : Nat) (M : xM) (ha : a < n) {Z : List Frame → Array Value → State → State → Prop} (kk : XW l G (xR d 2 172) y_Reader_init b_Reader_init 3 none (xKL (PR G q v)) Z (n + 2) (MW G M a n wWd) 2 172 96 [(0, .ref (xg G a)), (1, .int (nI 11)), (2, .int (nI 61))] []) : ∀ (k i : Nat), i + k = 61 → XW l G (xR d 2 172) y_Reader_init b_Reader_init 3 none (xKL (PR G q v)) Z (n + 2) (MW G M a n (jL i).2) 2 172 25 [(0, .ref (xg G a)), (1, .int (nI (jL i).1)), (2, .int (nI i))] [] := by
  intro k
  induction k with
  | zero =>
    intro i hi
    have e : i = 61 := by omega
    rw [e, jL_61]
    refine X_iload_n d_Reader_init_25 rfl rfl ?_
    refine X_ldcJ (b := q) (fun s h => h.1) d_Reader_init_26 ?_
    refine X_callVJ (rest := [.int (nI 61)]) (As := []) PR_to (fun s h => h.2.2.2.1) (c_J_length (d := d - 1) (v := v) (N := 61) (f := xla wBy) (by omega)) lk_J_length (xT_1 97 rfl rfl) rfl (Nat.le_of_ble_eq_true rfl) (xRok (d' := d - 1) (by omega) (by decide)) ⟨Nat.le_refl _, Nat.le_refl _⟩ d_Reader_init_28 rfl ?_
    exact X_icmp_ge (tgt := 96) d_Reader_init_31 (by decide) (fun _ => kk) (fun z => absurd (Int32.le_refl _) z)
  | succ k ih =>
    intro i hi
    have hi2 : i < 61 := by omega
    obtain ⟨w12, l12⟩ := jL_b i (by omega)
    have ih1 := ih (i + 1) (by omega)
    have eS : jL (i + 1) = wStp (xla wBy i) (jL i) := rfl
    generalize jL i = s at *
    refine X_iload_n d_Reader_init_25 rfl rfl ?_
    refine X_ldcJ (b := q) (fun s h => h.1) d_Reader_init_26 ?_
    refine X_callVJ (rest := [.int (nI i)]) (As := []) PR_to (fun s h => h.2.2.2.1) (c_J_length (d := d - 1) (v := v) (N := 61) (f := xla wBy) (by omega)) lk_J_length (xT_1 97 rfl rfl) rfl (Nat.le_of_ble_eq_true rfl) (xRok (d' := d - 1) (by omega) (by decide)) ⟨Nat.le_refl _, Nat.le_refl _⟩ d_Reader_init_28 rfl ?_
    refine X_icmp_ge (tgt := 96) d_Reader_init_31 (by decide) (fun z => absurd (nI_done (T := 61) (by omega) (by decide) z) (by omega)) (fun _ => ?_)
    refine X_ldcJ (b := q) (fun s h => h.1) d_Reader_init_34 ?_
    refine X_iload_n d_Reader_init_36 rfl rfl ?_
    refine X_callVJ (rest := []) PR_to (fun s h => h.2.2.2.1) (c_J_charAt (d := d - 1) (v := v) (N := 61) (f := xla wBy) (by omega) hi2 (by decide) ⟨wBy_a i hi2, wBy_n i hi2⟩) lk_J_charAt (xT_1 107 rfl rfl) rfl (Nat.le_of_ble_eq_true rfl) (xRok (d' := d - 1) (by omega) (by decide)) ⟨Nat.le_refl _, Nat.le_refl _⟩ d_Reader_init_37 rfl ?_
    refine X_bipush (v := 32) d_Reader_init_40 rfl ?_
    have fin : ∀ s' : Nat × List Int64, jL (i + 1) = s' → XW l G (xR d 2 172) y_Reader_init b_Reader_init 3 none (xKL (PR G q v)) Z (n + 2) (MW G M a n s'.2) 2 172 90 [(0, .ref (xg G a)), (1, .int (nI s'.1)), (2, .int (nI i))] [] := by
      intro s' hs
      refine X_iinc d_Reader_init_90 rfl (v := nI (i + 1)) (by rw [← nI_1]; rfl) (by decide) [1, 2, 0] (L' := [(0, .ref (xg G a)), (1, .int (nI s'.1)), (2, .int (nI (i + 1)))]) rfl ?_
      refine X_goto (tgt := 25) d_Reader_init_93 (by decide) ?_
      rw [← hs]
      exact ih1
    refine X_icmp_ne (tgt := 51) d_Reader_init_42 (by decide) (fun c32 => ?_) (fun c32 => ?_)
    · refine X_iload_n d_Reader_init_51 rfl rfl ?_
      refine X_aload_n d_Reader_init_52 rfl rfl ?_
      refine X_getfield 1 fg_Reader_15 (MW_a ha) rfl d_Reader_init_53 ?_
      refine X_alen (t := 1) (v := 12) (by decide) MW_w rfl d_Reader_init_56 ?_
      refine X_icmp_ge (tgt := 90) d_Reader_init_57 (by decide) (fun z => absurd (nI_done (T := 12) (by omega) (by decide) z) (by omega)) (fun _ => ?_)
      refine X_aload_n d_Reader_init_60 rfl rfl ?_
      refine X_getfield 1 fg_Reader_15 (MW_a ha) rfl d_Reader_init_61 ?_
      refine X_iload_n d_Reader_init_64 rfl rfl ?_
      refine X_aload_n d_Reader_init_65 rfl rfl ?_
      refine X_getfield 1 fg_Reader_15 (MW_a ha) rfl d_Reader_init_66 ?_
      refine X_iload_n d_Reader_init_69 rfl rfl ?_
      refine X_lald MW_w (vp_in_nI w12 (by decide)) d_Reader_init_70 ?_
      refine X_ldc2 cs_Reader_31 d_Reader_init_71 ?_
      refine X_lmul d_Reader_init_74 ?_
      refine X_ldcJ (b := q) (fun s h => h.1) d_Reader_init_75 ?_
      refine X_iload_n d_Reader_init_77 rfl rfl ?_
      refine X_callVJ (rest := [.long (s.2.getD (nI s.1).toNatClampNeg 0 * 32), .int (nI s.1), .ref (xg G (n + 1))]) PR_to (fun s h => h.2.2.2.1) (c_J_charAt (d := d - 1) (v := v) (N := 61) (f := xla wBy) (by omega) hi2 (by decide) ⟨wBy_a i hi2, wBy_n i hi2⟩) lk_J_charAt (xT_1 107 rfl rfl) rfl (Nat.le_of_ble_eq_true rfl) (xRok (d' := d - 1) (by omega) (by decide)) ⟨Nat.le_refl _, Nat.le_refl _⟩ d_Reader_init_78 rfl ?_
      refine X_i2l d_Reader_init_81 ?_
      refine X_ladd d_Reader_init_82 ?_
      refine X_ldc2 cs_Reader_33 d_Reader_init_83 ?_
      refine X_lsub d_Reader_init_86 ?_
      refine X_lconst (v := 1) d_Reader_init_87 rfl ?_
      refine X_ladd d_Reader_init_88 ?_
      refine X_last MW_w (vp_in_nI w12 (by decide)) d_Reader_init_89 ?_
      rw [nI_cl (show s.1 < 2 ^ 31 by omega), xup_ls (by omega), MW, xup_up]
      exact fin (s.1, s.2.set s.1 (s.2.getD s.1 0 * 32 + (xla wBy i).toInt64 - 97 + 1)) (by rw [eS, wStp, if_neg c32])
    · refine X_iinc d_Reader_init_45 rfl (v := nI (s.1 + 1)) (by rw [← nI_1]; rfl) (by decide) [1, 0, 2] (L' := [(0, .ref (xg G a)), (1, .int (nI (s.1 + 1))), (2, .int (nI i))]) rfl ?_
      refine X_goto (tgt := 90) d_Reader_init_48 (by decide) ?_
      exact fin (s.1 + 1, s.2) (by rw [eS, wStp, if_pos c32])
theorem c_Reader_init (l : Launch) (G : xG) {d : Nat} (hd : 5 ≤ d) (q v n a : Nat) (M : xM) (ha : a < n) (hM : M a = some (.inl (.inr (3, rdN)))) : XM l G d y_Reader_init b_Reader_init 3 none 2 172 (xKL (PR G q v)) [.ref (xg G a)] n M none (n + 2) (MW G M a n wWd) := by
  refine XM.of (by decide) (Nat.le_of_ble_eq_true rfl) (L := [(0, .ref (xg G a))]) rfl ?_
  refine X_aload_n d_Reader_init_0 rfl rfl ?_
  refine X_objInit ml_Reader_5 oi_inst oi_code ⟨(by omega : 1 ≤ d), Nat.le_trans (m := 64) (Nat.le_of_ble_eq_true rfl) (show 64 ≤ 64 * d by omega)⟩ d_Reader_init_1 ?_
  refine X_aload_n d_Reader_init_4 rfl rfl ?_
  refine X_sipush (v := 160) d_Reader_init_5 rfl ?_
  refine X_newI (N' := 160) ac_int (by decide) rfl (by decide) (Nat.le_of_ble_eq_true rfl) (Nat.le_of_ble_eq_true rfl) d_Reader_init_8 ?_
  refine X_putfieldF 0 fp_Reader_11 rfl ((xup_n _ _ (by omega)).trans hM) rfl rfl (Nat.le_of_ble_eq_true rfl) d_Reader_init_10 ?_
  refine X_aload_n d_Reader_init_13 rfl rfl ?_
  refine X_bipush (v := 12) d_Reader_init_14 rfl ?_
  refine X_newL (N' := 12) ac_long (by decide) rfl (by decide) (Nat.le_of_ble_eq_true rfl) (Nat.le_of_ble_eq_true rfl) d_Reader_init_16 ?_
  refine X_putfieldF 1 fp_Reader_15 rfl ((xup_n _ _ (by omega)).trans (xup_s _ _ _)) rfl rfl (Nat.le_of_ble_eq_true rfl) d_Reader_init_18 ?_
  refine X_iconst (v := 0) d_Reader_init_21 rfl ?_
  refine X_istore_n d_Reader_init_22 rfl (by decide) [1, 0] (L' := [(0, .ref (xg G a)), (1, .int 0)]) rfl ?_
  refine X_iconst (v := 0) d_Reader_init_23 rfl ?_
  refine X_istore_n d_Reader_init_24 rfl (by decide) [1, 2, 0] (L' := [(0, .ref (xg G a)), (1, .int 0), (2, .int 0)]) rfl ?_
  have z : (fun j => (List.replicate 12 (0 : Int64)).getD j 0) = fun _ => (0 : Int64) := by
    funext j
    rw [List.getD_eq_getElem?_getD, List.getElem?_replicate]
    split <;> rfl
  have e0 := wl_Reader_init l G (d := d) hd q v n a M ha (Z := xZ G (n + 2) (MW G M a n wWd) none 2 172) (X_vret rfl rfl (xle_rf _) d_Reader_init_96) 61 0 rfl
  have hm : xup (xup (xup (xup M n (some (xAr 160))) a (some (.inl (.inr (3, rdN.set 0 (.ref (xg G n))))))) (n + 1) (some (.inl (.inl (1, 12, .inr (.inl (fun _ => 0))))))) a (some (.inl (.inr (3, (rdN.set 0 (.ref (xg G n))).set 1 (.ref (xg G (n + 1))))))) = MW G M a n (jL 0).2 := by
    rw [xup_comm _ _ _ (show n + 1 ≠ a by omega), xup_up, xup_comm _ _ _ (show n ≠ a by omega)]
    rw [← z]
    rfl
  rw [← hm] at e0
  exact e0
