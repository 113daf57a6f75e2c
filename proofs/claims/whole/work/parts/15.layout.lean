-- the whole memory: what stands at which number
abbrev sX : xS := .inl (0, [some 1, some 2, some 3, some 4, some 5, some 6, some 7, some 11, some 14, some 15, none, none, none, none, none])
abbrev sModel : xS := .inl (5, [none, some 60, some 61, some 62, some 63, none, some 64, some 65, none, none, none, none, none, some 66, some 67, some 68, some 69, some 70, none, none, none, none, some 71, some 72, none, none, none, some 73, some 74, none, none, none, none, none])
abbrev sWords : xS := .inr (.inr (.inr (.inl [89436307, 6328499, 2275475, 498, 1476, 14836, 20452516, 99685, 707748, 441925, 20101733, 189619])))
def xYl : List xS := [sX, .inr (.inr (.inl (2, [17, 19, 21, 23, 25]))), .inr (.inr (.inl (2, [18, 20, 22, 24, 26]))), sVague 1000, sVague 1000, sVague 81, .inr (.inr (.inl (3, [27, 31, 35, 39, 43, 47]))), sText 7, sInts 160, sInts 3, sVague 40, sReader 12 13, sInts 160, sWords, .inr (.inr (.inl (4, [51, 53, 55, 57]))), sSheet 15, sInts 40, sHead, sHead, sHead, sHead, sHead, sHead, sHead, sHead, sHead, sHead, sText 27, sInts 160, sInts 3, sVague 40, sText 31, sInts 160, sInts 3, sVague 40, sText 35, sInts 160, sInts 3, sVague 40, sText 39, sInts 160, sInts 3, sVague 40, sText 43, sInts 160, sInts 3, sVague 40, sText 47, sInts 160, sInts 3, sVague 40, sSheet 51, sInts 40, sSheet 53, sInts 40, sSheet 55, sInts 40, sSheet 57, sInts 40, sModel, sInts 5, sInts 5, sInts 30, sInts 160, sInts 1200, sInts 24, sInts 30, sInts 4, sInts 4, sInts 160, sInts 47, sInts 96, sVague 200, sVague 200, sVague 6]
def xYf : xY := fun k => xYl[k]?
/-- a shape of the memory that is the whole one's but for what may be unknown -/
def xYok (Y : xY) : Prop := ∀ k, k < 59 → k ≠ 3 → k ≠ 4 → k ≠ 5 → Y k = xYf k
theorem xYok_f : xYok xYf := fun _ _ _ _ _ => rfl
theorem xYok_3 {Y : xY} (h : xYok Y) (s : Option xS) : xYok (xup Y 3 s) := fun k h0 h1 h2 h3 => (xup_n _ _ h1).trans (h k h0 h1 h2 h3)
theorem xYok_4 {Y : xY} (h : xYok Y) (s : Option xS) : xYok (xup Y 4 s) := fun k h0 h1 h2 h3 => (xup_n _ _ h2).trans (h k h0 h1 h2 h3)
theorem xYok_5 {Y : xY} (h : xYok Y) (s : Option xS) : xYok (xup Y 5 s) := fun k h0 h1 h2 h3 => (xup_n _ _ h3).trans (h k h0 h1 h2 h3)
theorem yA {Y : xY} (h : xYok Y) {k : Nat} {s : xS} (hk : xYf k = some s) (h0 : k < 59) (h1 : k ≠ 3) (h2 : k ≠ 4) (h3 : k ≠ 5) : Y k = some s := (h k h0 h1 h2 h3).trans hk
theorem fH {i : Nat} (hi : i < 5) : xYf (17 + 2 * i) = some sHead := by match i, hi with | 0, _ => rfl | 1, _ => rfl | 2, _ => rfl | 3, _ => rfl | 4, _ => rfl
theorem fG {i : Nat} (hi : i < 5) : xYf (18 + 2 * i) = some sHead := by match i, hi with | 0, _ => rfl | 1, _ => rfl | 2, _ => rfl | 3, _ => rfl | 4, _ => rfl
theorem fT {i : Nat} (hi : i < 6) : xYf (27 + 4 * i) = some (sText (27 + 4 * i)) ∧ xYf (27 + 4 * i + 1) = some (sInts 160) ∧ xYf (27 + 4 * i + 2) = some (sInts 3) ∧ xYf (27 + 4 * i + 3) = some (sVague 40) := by
  match i, hi with | 0, _ => exact ⟨rfl, rfl, rfl, rfl⟩ | 1, _ => exact ⟨rfl, rfl, rfl, rfl⟩ | 2, _ => exact ⟨rfl, rfl, rfl, rfl⟩ | 3, _ => exact ⟨rfl, rfl, rfl, rfl⟩ | 4, _ => exact ⟨rfl, rfl, rfl, rfl⟩ | 5, _ => exact ⟨rfl, rfl, rfl, rfl⟩
theorem fS {i : Nat} (hi : i < 4) : xYf (51 + 2 * i) = some (sSheet (51 + 2 * i)) ∧ xYf (51 + 2 * i + 1) = some (sInts 40) := by
  match i, hi with | 0, _ => exact ⟨rfl, rfl⟩ | 1, _ => exact ⟨rfl, rfl⟩ | 2, _ => exact ⟨rfl, rfl⟩ | 3, _ => exact ⟨rfl, rfl⟩
theorem yH {Y : xY} (h : xYok Y) {i : Nat} (hi : i < 5) : Y (17 + 2 * i) = some sHead := yA h (fH hi) (by omega) (by omega) (by omega) (by omega)
theorem yG {Y : xY} (h : xYok Y) {i : Nat} (hi : i < 5) : Y (18 + 2 * i) = some sHead := yA h (fG hi) (by omega) (by omega) (by omega) (by omega)
theorem yT {Y : xY} (h : xYok Y) {i : Nat} (hi : i < 6) : Y (27 + 4 * i) = some (sText (27 + 4 * i)) ∧ Y (27 + 4 * i + 1) = some (sInts 160) ∧ Y (27 + 4 * i + 2) = some (sInts 3) ∧ Y (27 + 4 * i + 3) = some (sVague 40) :=
  ⟨yA h (fT hi).1 (by omega) (by omega) (by omega) (by omega), yA h (fT hi).2.1 (by omega) (by omega) (by omega) (by omega), yA h (fT hi).2.2.1 (by omega) (by omega) (by omega) (by omega), yA h (fT hi).2.2.2 (by omega) (by omega) (by omega) (by omega)⟩
theorem yS {Y : xY} (h : xYok Y) {i : Nat} (hi : i < 4) : Y (51 + 2 * i) = some (sSheet (51 + 2 * i)) ∧ Y (51 + 2 * i + 1) = some (sInts 40) :=
  ⟨yA h (fS hi).1 (by omega) (by omega) (by omega) (by omega), yA h (fS hi).2 (by omega) (by omega) (by omega) (by omega)⟩
theorem y0 {Y : xY} (h : xYok Y) : Y 0 = some sX := yA h (k := 0) rfl (by decide) (by decide) (by decide) (by decide)
theorem y1 {Y : xY} (h : xYok Y) : Y 1 = some (.inr (.inr (.inl (2, [17, 19, 21, 23, 25])))) := yA h (k := 1) rfl (by decide) (by decide) (by decide) (by decide)
theorem y2 {Y : xY} (h : xYok Y) : Y 2 = some (.inr (.inr (.inl (2, [18, 20, 22, 24, 26])))) := yA h (k := 2) rfl (by decide) (by decide) (by decide) (by decide)
theorem y6 {Y : xY} (h : xYok Y) : Y 6 = some (.inr (.inr (.inl (3, [27, 31, 35, 39, 43, 47])))) := yA h (k := 6) rfl (by decide) (by decide) (by decide) (by decide)
theorem y14 {Y : xY} (h : xYok Y) : Y 14 = some (.inr (.inr (.inl (4, [51, 53, 55, 57])))) := yA h (k := 14) rfl (by decide) (by decide) (by decide) (by decide)
theorem eH {i : Nat} (hi : i < 5) : [17, 19, 21, 23, 25][(nI i).toNatClampNeg]? = some (17 + 2 * i) := by rw [nI_cl (by omega)]; match i, hi with | 0, _ => rfl | 1, _ => rfl | 2, _ => rfl | 3, _ => rfl | 4, _ => rfl
theorem eG {i : Nat} (hi : i < 5) : [18, 20, 22, 24, 26][(nI i).toNatClampNeg]? = some (18 + 2 * i) := by rw [nI_cl (by omega)]; match i, hi with | 0, _ => rfl | 1, _ => rfl | 2, _ => rfl | 3, _ => rfl | 4, _ => rfl
theorem eT {i : Nat} (hi : i < 6) : [27, 31, 35, 39, 43, 47][(nI i).toNatClampNeg]? = some (27 + 4 * i) := by rw [nI_cl (by omega)]; match i, hi with | 0, _ => rfl | 1, _ => rfl | 2, _ => rfl | 3, _ => rfl | 4, _ => rfl | 5, _ => rfl
theorem eS {i : Nat} (hi : i < 4) : [51, 53, 55, 57][(nI i).toNatClampNeg]? = some (51 + 2 * i) := by rw [nI_cl (by omega)]; match i, hi with | 0, _ => rfl | 1, _ => rfl | 2, _ => rfl | 3, _ => rfl
theorem c_X_headAt (l : Launch) (G : xG) {d : Nat} (nn : Nat) (Y : xY) (I : xI) (hd : 1 ≤ d) (hY : xYok Y) (i : Nat) (hi : i < 5) : XM l G d y_X_headAt b_X_headAt 3 (some (.object "RoundAndRound$Head")) 0 0 xK0 [.ref (xg G 0), .int (nI i)] nn (xm G Y I) (some (.ref (xg G (17 + 2 * i)))) nn (xm G Y (I)) := by
  refine XM.of (by decide) (Nat.le_of_ble_eq_true rfl) (L := [(0, .ref (xg G 0)), (1, .int (nI i))]) rfl ?_
  refine X_iload_n d_X_headAt_0 rfl rfl ?_
  refine X_if_lt (tgt := 22) d_X_headAt_1 (by decide) (fun c_1 => absurd c_1 (nI_pos (by omega))) (fun _ => ?_)
  refine X_iload_n d_X_headAt_4 rfl rfl ?_
  refine X_aload_n d_X_headAt_5 rfl rfl ?_
  refine X_getR (r := 1) fg_X_11 (y0 hY) rfl d_X_headAt_6 ?_
  refine X_alenR (v := 5) (by decide) (y1 hY) rfl d_X_headAt_9 ?_
  refine X_icmp_ge (tgt := 22) d_X_headAt_10 (by decide) (fun c_2 => absurd c_2 (show ¬ nI 5 ≤ nI i from nI_ge hi (by decide))) (fun _ => ?_)
  refine X_aload_n d_X_headAt_13 rfl rfl ?_
  refine X_getR (r := 1) fg_X_11 (y0 hY) rfl d_X_headAt_14 ?_
  refine X_iload_n d_X_headAt_17 rfl rfl ?_
  refine X_aldR (t := 2) (r := 17 + 2 * i) rfl (y1 hY) (vp_in_nI (show i < 5 by omega) (by decide)) (eH (show i < 5 by omega)) d_X_headAt_18 ?_
  refine X_goto (tgt := 23) d_X_headAt_19 (by decide) ?_
  refine X_astore_n d_X_headAt_23 rfl (by decide) [1, 2, 0] (L' := [(0, .ref (xg G 0)), (1, .int (nI i)), (2, .ref (xg G (17 + 2 * i)))]) rfl ?_
  refine X_aload_n d_X_headAt_24 rfl rfl ?_
  refine X_ifnonnull (tgt := 35) d_X_headAt_25 (by decide) ?_
  refine X_aload_n d_X_headAt_35 rfl rfl ?_
  exact X_aret rfl (by rfl) (xle_rf _) d_X_headAt_36
theorem c_X_imageHeadAt (l : Launch) (G : xG) {d : Nat} (nn : Nat) (Y : xY) (I : xI) (hd : 1 ≤ d) (hY : xYok Y) (i : Nat) (hi : i < 5) : XM l G d y_X_imageHeadAt b_X_imageHeadAt 3 (some (.object "RoundAndRound$Head")) 0 0 xK0 [.ref (xg G 0), .int (nI i)] nn (xm G Y I) (some (.ref (xg G (18 + 2 * i)))) nn (xm G Y (I)) := by
  refine XM.of (by decide) (Nat.le_of_ble_eq_true rfl) (L := [(0, .ref (xg G 0)), (1, .int (nI i))]) rfl ?_
  refine X_iload_n d_X_imageHeadAt_0 rfl rfl ?_
  refine X_if_lt (tgt := 22) d_X_imageHeadAt_1 (by decide) (fun c_1 => absurd c_1 (nI_pos (by omega))) (fun _ => ?_)
  refine X_iload_n d_X_imageHeadAt_4 rfl rfl ?_
  refine X_aload_n d_X_imageHeadAt_5 rfl rfl ?_
  refine X_getR (r := 2) fg_X_15 (y0 hY) rfl d_X_imageHeadAt_6 ?_
  refine X_alenR (v := 5) (by decide) (y2 hY) rfl d_X_imageHeadAt_9 ?_
  refine X_icmp_ge (tgt := 22) d_X_imageHeadAt_10 (by decide) (fun c_2 => absurd c_2 (show ¬ nI 5 ≤ nI i from nI_ge hi (by decide))) (fun _ => ?_)
  refine X_aload_n d_X_imageHeadAt_13 rfl rfl ?_
  refine X_getR (r := 2) fg_X_15 (y0 hY) rfl d_X_imageHeadAt_14 ?_
  refine X_iload_n d_X_imageHeadAt_17 rfl rfl ?_
  refine X_aldR (t := 2) (r := 18 + 2 * i) rfl (y2 hY) (vp_in_nI (show i < 5 by omega) (by decide)) (eG (show i < 5 by omega)) d_X_imageHeadAt_18 ?_
  refine X_goto (tgt := 23) d_X_imageHeadAt_19 (by decide) ?_
  refine X_astore_n d_X_imageHeadAt_23 rfl (by decide) [1, 2, 0] (L' := [(0, .ref (xg G 0)), (1, .int (nI i)), (2, .ref (xg G (18 + 2 * i)))]) rfl ?_
  refine X_aload_n d_X_imageHeadAt_24 rfl rfl ?_
  refine X_ifnonnull (tgt := 35) d_X_imageHeadAt_25 (by decide) ?_
  refine X_aload_n d_X_imageHeadAt_35 rfl rfl ?_
  exact X_aret rfl (by rfl) (xle_rf _) d_X_imageHeadAt_36
theorem c_X_textAt (l : Launch) (G : xG) {d : Nat} (nn : Nat) (Y : xY) (I : xI) (hd : 1 ≤ d) (hY : xYok Y) (i : Nat) (hi : i < 6) : XM l G d y_X_textAt b_X_textAt 3 (some (.object "RoundAndRound$Text")) 0 0 xK0 [.ref (xg G 0), .int (nI i)] nn (xm G Y I) (some (.ref (xg G (27 + 4 * i)))) nn (xm G Y (I)) := by
  refine XM.of (by decide) (Nat.le_of_ble_eq_true rfl) (L := [(0, .ref (xg G 0)), (1, .int (nI i))]) rfl ?_
  refine X_iload_n d_X_textAt_0 rfl rfl ?_
  refine X_if_lt (tgt := 22) d_X_textAt_1 (by decide) (fun c_1 => absurd c_1 (nI_pos (by omega))) (fun _ => ?_)
  refine X_iload_n d_X_textAt_4 rfl rfl ?_
  refine X_aload_n d_X_textAt_5 rfl rfl ?_
  refine X_getR (r := 6) fg_X_32 (y0 hY) rfl d_X_textAt_6 ?_
  refine X_alenR (v := 6) (by decide) (y6 hY) rfl d_X_textAt_9 ?_
  refine X_icmp_ge (tgt := 22) d_X_textAt_10 (by decide) (fun c_2 => absurd c_2 (show ¬ nI 6 ≤ nI i from nI_ge hi (by decide))) (fun _ => ?_)
  refine X_aload_n d_X_textAt_13 rfl rfl ?_
  refine X_getR (r := 6) fg_X_32 (y0 hY) rfl d_X_textAt_14 ?_
  refine X_iload_n d_X_textAt_17 rfl rfl ?_
  refine X_aldR (t := 3) (r := 27 + 4 * i) rfl (y6 hY) (vp_in_nI (show i < 6 by omega) (by decide)) (eT (show i < 6 by omega)) d_X_textAt_18 ?_
  refine X_goto (tgt := 23) d_X_textAt_19 (by decide) ?_
  refine X_astore_n d_X_textAt_23 rfl (by decide) [1, 2, 0] (L' := [(0, .ref (xg G 0)), (1, .int (nI i)), (2, .ref (xg G (27 + 4 * i)))]) rfl ?_
  refine X_aload_n d_X_textAt_24 rfl rfl ?_
  refine X_ifnonnull (tgt := 35) d_X_textAt_25 (by decide) ?_
  refine X_aload_n d_X_textAt_35 rfl rfl ?_
  exact X_aret rfl (by rfl) (xle_rf _) d_X_textAt_36
theorem c_X_sheetAt (l : Launch) (G : xG) {d : Nat} (nn : Nat) (Y : xY) (I : xI) (hd : 1 ≤ d) (hY : xYok Y) (i : Nat) (hi : i < 4) : XM l G d y_X_sheetAt b_X_sheetAt 3 (some (.object "RoundAndRound$Sheet")) 0 0 xK0 [.ref (xg G 0), .int (nI i)] nn (xm G Y I) (some (.ref (xg G (51 + 2 * i)))) nn (xm G Y (I)) := by
  refine XM.of (by decide) (Nat.le_of_ble_eq_true rfl) (L := [(0, .ref (xg G 0)), (1, .int (nI i))]) rfl ?_
  refine X_iload_n d_X_sheetAt_0 rfl rfl ?_
  refine X_if_lt (tgt := 22) d_X_sheetAt_1 (by decide) (fun c_1 => absurd c_1 (nI_pos (by omega))) (fun _ => ?_)
  refine X_iload_n d_X_sheetAt_4 rfl rfl ?_
  refine X_aload_n d_X_sheetAt_5 rfl rfl ?_
  refine X_getR (r := 14) fg_X_50 (y0 hY) rfl d_X_sheetAt_6 ?_
  refine X_alenR (v := 4) (by decide) (y14 hY) rfl d_X_sheetAt_9 ?_
  refine X_icmp_ge (tgt := 22) d_X_sheetAt_10 (by decide) (fun c_2 => absurd c_2 (show ¬ nI 4 ≤ nI i from nI_ge hi (by decide))) (fun _ => ?_)
  refine X_aload_n d_X_sheetAt_13 rfl rfl ?_
  refine X_getR (r := 14) fg_X_50 (y0 hY) rfl d_X_sheetAt_14 ?_
  refine X_iload_n d_X_sheetAt_17 rfl rfl ?_
  refine X_aldR (t := 4) (r := 51 + 2 * i) rfl (y14 hY) (vp_in_nI (show i < 4 by omega) (by decide)) (eS (show i < 4 by omega)) d_X_sheetAt_18 ?_
  refine X_goto (tgt := 23) d_X_sheetAt_19 (by decide) ?_
  refine X_astore_n d_X_sheetAt_23 rfl (by decide) [1, 2, 0] (L' := [(0, .ref (xg G 0)), (1, .int (nI i)), (2, .ref (xg G (51 + 2 * i)))]) rfl ?_
  refine X_aload_n d_X_sheetAt_24 rfl rfl ?_
  refine X_ifnonnull (tgt := 35) d_X_sheetAt_25 (by decide) ?_
  refine X_aload_n d_X_sheetAt_35 rfl rfl ?_
  exact X_aret rfl (by rfl) (xle_rf _) d_X_sheetAt_36
theorem c_X_law (l : Launch) (G : xG) {d : Nat} (nn : Nat) (Y : xY) (I : xI) (hd : 2 ≤ d) (hY : xYok Y) (ln : Nat) (hl6 : ln < 6) (hln : I 0 12 = nI ln) : XM l G d y_X_law b_X_law 1 (some (.object "RoundAndRound$Text")) 0 0 xK0 [.ref (xg G 0)] nn (xm G Y I) (some (.ref (xg G (27 + 4 * ln)))) nn (xm G Y (I)) := by
  refine XM.of (by decide) (Nat.le_of_ble_eq_true rfl) (L := [(0, .ref (xg G 0))]) rfl ?_
  refine X_aload_n d_X_law_0 rfl rfl ?_
  refine X_aload_n d_X_law_1 rfl rfl ?_
  refine X_getI (v := nI ln) fg_X_66 (y0 hY) rfl (hln) d_X_law_2 ?_
  refine X_callV (v := .ref (xg G (27 + 4 * ln))) (rest := []) (c_X_textAt l G nn Y I (by omega) hY ln (by omega)) lk_X_textAt ml_X_91 (xm_obj (y0 hY)) rfl rfl (Nat.le_of_ble_eq_true rfl) (xRok (d' := d - 1) (by omega) (by decide)) ⟨Nat.le_refl _, Nat.le_refl _⟩ d_X_law_5 rfl ?_
  exact X_aret rfl (by rfl) (xle_rf _) d_X_law_8
