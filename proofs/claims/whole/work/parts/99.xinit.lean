theorem xYn_59 : xYn 59 = xYc := by
  funext k
  unfold xYn xYc xYcl
  rw [List.getElem?_take]
  rfl
section XIJ
variable {l : Launch} {G : xG} {R : Room} {y : MethodName} {cc : ByteArray} {ml : Nat} {rt : Option FieldType} {P P' : State → Prop} {Z : List Frame → Array Value → State → State → Prop} {n : Nat} {M : xM} {kc sl pc : Nat} {L : List (Nat × Value)} {st : List Value}
variable {y' : MethodName} {b' : ByteArray} {ml' na mc ms d' n' a idx : Nat} {As rest : List Value} {M' : xM}
theorem X_callIJ (hTo : xTo G P P') (hM : XM l G d' y' b' ml' none mc ms (xKL P') (.ref (xg G a) :: As) n M none n' M') (hlk : xLI y' b' ml' na) (hln : Cond.methodLink y.cls idx y' ∈ xT) (hna : As.length = na) (hrest : (rest.map fun v => v.category).sum ≤ 8) (hR : d' + 1 ≤ R.frames ∧ 8 + (ml' + 11) + 64 * d' ≤ R.locals) (hcs : kc + mc ≤ R.cells ∧ sl + ms ≤ R.slots) (hd : decode cc pc = .ok (.invokespecial idx, 3)) (hst : As.reverse ++ .ref (xg G a) :: rest = st) (kk : XW l G R y cc ml rt (xKL P) Z n' M' (kc + mc) (sl + ms) (pc + 3) L rest) : XW l G R y cc ml rt (xKL P) Z n M kc sl pc L st := by
  intro p e s m args below meth c H locs ls hc hH hS hL
  have hts := hc.2.2.2.2.2.2.2.1
  have hKs := hc.2.2.2.2.2.2.2.2.1
  have hPs : P s := hc.2.2.2.2.2.2.2.2.2.1
  exact xcall (r := none) (va_runI (rest := rest) ⟨hc.1, hc.2.1, hc.2.2.1, hc.2.2.2.2.2.1, hts⟩ hM ⟨callB_of na hts (xgood hlk.1.2.1) rfl rfl rfl (hts _ hlk.1.1) (hts _ hln) ⟨hlk.1.2.2.1, hlk.1.2.2.2.1, hlk.1.2.2.2.2⟩ hR, hlk.2.1, hts _ hlk.2.2⟩ ⟨xblJ hTo, fun U hU hW => ⟨rfl, xK_warm hW hKs, by rw [hU]; exact Nat.le_trans hc.2.2.2.2.2.2.2.2.2.2 hS.1, by rw [hU]; exact hH, hTo.1 s U hPs hW (by rw [hU]; exact hS.2.1)⟩⟩ rfl hna hL.1 hst.symm (lv_room (pc := pc) (m := m) (ls := ls) (rest := st) hrest) hd hcs) hS (fun H1 locs1 h1 h2 => kk p e s m args below meth c H1 locs1 ls hc h1 h2 hL)
end XIJ
def PX (G : xG) (q1 v1 q v : Nat) (U : State) : Prop := vk_R "RoundAndRound" 75 "builds 20 + speed * 10 ; fades 10 ; bends 100 ; " q1 U ∧ xJ G q1 v1 48 (xla wFirst) U ∧ PR G q v U
theorem PX_to {G : xG} {q1 v1 q v : Nat} : xTo G (PX G q1 v1 q v) (PR G q v) := ⟨fun s U h hW hk => ⟨vk_R.warm hW h.2.2.1, xJ_to.1 s U h.2.2.2 hW hk⟩, fun U g mk a h => ⟨vk_R.same rfl h.1, xJ_to.2 U g mk a h.2⟩⟩
theorem PX_to1 {G : xG} {q1 v1 q v : Nat} : xTo G (PX G q1 v1 q v) (xJ G q1 v1 48 (xla wFirst)) := ⟨fun s U h hW hk => xJ_to.1 s U h.2.1 hW hk, xJ_to.2⟩
theorem PX_self {G : xG} {q1 v1 q v : Nat} : xTo G (PX G q1 v1 q v) (PX G q1 v1 q v) := ⟨fun s U h hW hk => ⟨vk_R.warm hW h.1, PX_to1.1 s U h hW hk, PX_to.1 s U h hW hk⟩, fun U g mk a h => ⟨vk_R.same rfl h.1, (PX_to1 (q := q) (v := v)).2 U g mk a h.2.1, (PX_to (q1 := q1) (v1 := v1)).2 U g mk a h.2.2⟩⟩
theorem mO_reader {G : xG} {Ov : List (Nat × xE)} {raw : xE} (h0 : ovG Ov 11 = none) (h1 : ovG Ov 12 = none) (h2 : ovG Ov 13 = none) : MW G (mO G 12 iZ ((11, raw) :: Ov)) 11 12 wWd = mO G 14 iZ Ov := by
  have e0 : xup (mO G 12 iZ ((11, raw) :: Ov)) 11 (some (.inl (.inr (3, rdF G 12)))) = mO G 12 iZ Ov := by
    rw [mO, xup_up]
    exact mO_close (sh := sReader 12 13) rfl (by decide) h0 rfl
  have e1 : xup (mO G 12 iZ Ov) 12 (some (xAr 160)) = mO G 13 iZ Ov := mO_new (G := G) (I := iZ) (Ov := Ov) (j := 12) (sh := sInts 160) rfl h1
  have e2 : xup (mO G 13 iZ Ov) 13 (some (.inl (.inl (1, 12, .inr (.inl (fun j => wWd.getD j 0)))))) = mO G 14 iZ Ov := mO_new (G := G) (I := iZ) (Ov := Ov) (j := 13) (sh := sWords) rfl h2
  rw [MW, e0, e1]
  exact e2
abbrev X_raw : List Value := [.null, .null, .null, .null, .null, .null, .null, .null, .null, .null, .int 0, .int 0, .int 0, .int 0, .int 0]
theorem w_X_init (l : Launch) (G : xG) {d : Nat} (hd : 8 ≤ d) (q1 v1 q v : Nat) {Z : List Frame → Array Value → State → State → Prop} (kk : XW l G (xR d 58 2049) y_X_init b_X_init 2 none (xKL (PX G q1 v1 q v)) Z 59 (xm G xYc iZ) 58 2049 217 [(0, .ref (xg G 0)), (1, .int 4)] []) : XW l G (xR d 58 2049) y_X_init b_X_init 2 none (xKL (PX G q1 v1 q v)) Z 1 (mO G 1 iZ [(0, .inl (.inr (0, X_raw)))]) 0 0 0 [(0, .ref (xg G 0))] [] := by
  refine X_aload_n d_X_init_0 rfl rfl ?_
  refine X_objInit ml_X_1 oi_inst oi_code ⟨(by omega : 1 ≤ d), Nat.le_trans (m := 64) (Nat.le_of_ble_eq_true rfl) (show 64 ≤ 64 * d by omega)⟩ d_X_init_1 ?_
  refine X_aload_n d_X_init_4 rfl rfl ?_
  refine X_iconst (v := 5) d_X_init_5 rfl ?_
  refine O_anew (N' := 5) (t := 2) (C := R_Head) [17, 19, 21, 23, 25] cl_X_9 (by decide) rfl (by decide) rfl (by decide) (Nat.le_of_ble_eq_true rfl) (Nat.le_of_ble_eq_true rfl) d_X_init_6 ?_
  refine O_putF (Ov' := [(1, aR G 2 5 [17, 19, 21, 23, 25] 0), (0, .inl (.inr (0, [.ref (xg G 1), .null, .null, .null, .null, .null, .null, .null, .null, .null, .int 0, .int 0, .int 0, .int 0, .int 0])))]) fp_X_11 rfl rfl rfl rfl (Nat.le_of_ble_eq_true rfl) rfl d_X_init_9 ?_
  refine X_aload_n d_X_init_12 rfl rfl ?_
  refine X_iconst (v := 5) d_X_init_13 rfl ?_
  refine O_anew (N' := 5) (t := 2) (C := R_Head) [18, 20, 22, 24, 26] cl_X_9 (by decide) rfl (by decide) rfl (by decide) (Nat.le_of_ble_eq_true rfl) (Nat.le_of_ble_eq_true rfl) d_X_init_14 ?_
  refine O_putF (Ov' := [(2, aR G 2 5 [18, 20, 22, 24, 26] 0), (1, aR G 2 5 [17, 19, 21, 23, 25] 0), (0, .inl (.inr (0, [.ref (xg G 1), .ref (xg G 2), .null, .null, .null, .null, .null, .null, .null, .null, .int 0, .int 0, .int 0, .int 0, .int 0])))]) fp_X_15 rfl rfl rfl rfl (Nat.le_of_ble_eq_true rfl) rfl d_X_init_17 ?_
  refine X_aload_n d_X_init_20 rfl rfl ?_
  refine O_newV rfl rfl rfl t_Head t_Head_ok rfl i_Head cl_X_9 is_Head in_Head (fun j hj => by match j, hj with | 0, _ => rfl | 1, _ => rfl | 2, _ => rfl | 3, _ => rfl | 4, _ => rfl | 5, _ => rfl | 6, _ => rfl | 7, _ => rfl) (Nat.le_of_ble_eq_true rfl) (Nat.le_of_ble_eq_true rfl) d_X_init_21 ?_
  refine X_dup d_X_init_24 rfl ?_
  refine X_callIN (rest := [.ref (xg G 3), .ref (xg G 0)]) (c_Head_init l G (d := d - 1) (by omega) 4 3 _) lk_Head_init mn_X_18 rfl (Nat.le_of_ble_eq_true rfl) (xRok (d' := d - 1) (by omega) (by decide)) ⟨(Nat.le_of_ble_eq_true rfl), (Nat.le_of_ble_eq_true rfl)⟩ d_X_init_25 rfl ?_
  refine O_putF (Ov' := [(2, aR G 2 5 [18, 20, 22, 24, 26] 0), (1, aR G 2 5 [17, 19, 21, 23, 25] 0), (0, .inl (.inr (0, [.ref (xg G 1), .ref (xg G 2), .ref (xg G 3), .null, .null, .null, .null, .null, .null, .null, .int 0, .int 0, .int 0, .int 0, .int 0])))]) fp_X_19 rfl rfl rfl rfl (Nat.le_of_ble_eq_true rfl) rfl d_X_init_28 ?_
  refine X_aload_n d_X_init_31 rfl rfl ?_
  refine O_newV rfl rfl rfl t_Head t_Head_ok rfl i_Head cl_X_9 is_Head in_Head (fun j hj => by match j, hj with | 0, _ => rfl | 1, _ => rfl | 2, _ => rfl | 3, _ => rfl | 4, _ => rfl | 5, _ => rfl | 6, _ => rfl | 7, _ => rfl) (Nat.le_of_ble_eq_true rfl) (Nat.le_of_ble_eq_true rfl) d_X_init_32 ?_
  refine X_dup d_X_init_35 rfl ?_
  refine X_callIN (rest := [.ref (xg G 4), .ref (xg G 0)]) (c_Head_init l G (d := d - 1) (by omega) 5 4 _) lk_Head_init mn_X_18 rfl (Nat.le_of_ble_eq_true rfl) (xRok (d' := d - 1) (by omega) (by decide)) ⟨(Nat.le_of_ble_eq_true rfl), (Nat.le_of_ble_eq_true rfl)⟩ d_X_init_36 rfl ?_
  refine O_putF (Ov' := [(2, aR G 2 5 [18, 20, 22, 24, 26] 0), (1, aR G 2 5 [17, 19, 21, 23, 25] 0), (0, .inl (.inr (0, [.ref (xg G 1), .ref (xg G 2), .ref (xg G 3), .ref (xg G 4), .null, .null, .null, .null, .null, .null, .int 0, .int 0, .int 0, .int 0, .int 0])))]) fp_X_23 rfl rfl rfl rfl (Nat.le_of_ble_eq_true rfl) rfl d_X_init_39 ?_
  refine X_aload_n d_X_init_42 rfl rfl ?_
  refine X_bipush (v := 81) d_X_init_43 rfl ?_
  refine O_newVI (N' := 81) rfl (by decide) rfl (by decide) rfl (by decide) (Nat.le_of_ble_eq_true rfl) (Nat.le_of_ble_eq_true rfl) d_X_init_45 ?_
  refine O_putF (Ov' := [(2, aR G 2 5 [18, 20, 22, 24, 26] 0), (1, aR G 2 5 [17, 19, 21, 23, 25] 0), (0, .inl (.inr (0, [.ref (xg G 1), .ref (xg G 2), .ref (xg G 3), .ref (xg G 4), .ref (xg G 5), .null, .null, .null, .null, .null, .int 0, .int 0, .int 0, .int 0, .int 0])))]) fp_X_26 rfl rfl rfl rfl (Nat.le_of_ble_eq_true rfl) rfl d_X_init_47 ?_
  refine X_aload_n d_X_init_50 rfl rfl ?_
  refine X_bipush (v := 6) d_X_init_51 rfl ?_
  refine O_anew (N' := 6) (t := 3) (C := R_Text) [27, 31, 35, 39, 43, 47] cl_X_30 (by decide) rfl (by decide) rfl (by decide) (Nat.le_of_ble_eq_true rfl) (Nat.le_of_ble_eq_true rfl) d_X_init_53 ?_
  refine O_putF (Ov' := [(6, aR G 3 6 [27, 31, 35, 39, 43, 47] 0), (2, aR G 2 5 [18, 20, 22, 24, 26] 0), (1, aR G 2 5 [17, 19, 21, 23, 25] 0), (0, .inl (.inr (0, [.ref (xg G 1), .ref (xg G 2), .ref (xg G 3), .ref (xg G 4), .ref (xg G 5), .ref (xg G 6), .null, .null, .null, .null, .int 0, .int 0, .int 0, .int 0, .int 0])))]) fp_X_32 rfl rfl rfl rfl (Nat.le_of_ble_eq_true rfl) rfl d_X_init_56 ?_
  refine X_aload_n d_X_init_59 rfl rfl ?_
  refine O_newO (ci := 2) (fs := [.null, .null, .null, .int 0, .int 0]) t_Text t_Text_ok rfl i_Text cl_X_30 is_Text in_Text (fun j hj => by match j, hj with | 0, _ => rfl | 1, _ => rfl | 2, _ => rfl | 3, _ => rfl | 4, _ => rfl) (Nat.le_of_ble_eq_true rfl) (Nat.le_of_ble_eq_true rfl) d_X_init_60 ?_
  refine X_dup d_X_init_63 rfl ?_
  refine X_callIN (rest := [.ref (xg G 7), .ref (xg G 0)]) (c_Text_init l G (d := d - 1) (by omega) 8 7 _ (by decide) (mO_g rfl)) lk_Text_init mn_X_36 rfl (Nat.le_of_ble_eq_true rfl) (xRok (d' := d - 1) (by omega) (by decide)) ⟨(Nat.le_of_ble_eq_true rfl), (Nat.le_of_ble_eq_true rfl)⟩ d_X_init_64 rfl ?_
  refine X_le (mO_text (Ov := [(6, aR G 3 6 [27, 31, 35, 39, 43, 47] 0), (2, aR G 2 5 [18, 20, 22, 24, 26] 0), (1, aR G 2 5 [17, 19, 21, 23, 25] 0), (0, .inl (.inr (0, [.ref (xg G 1), .ref (xg G 2), .ref (xg G 3), .ref (xg G 4), .ref (xg G 5), .ref (xg G 6), .null, .null, .null, .null, .int 0, .int 0, .int 0, .int 0, .int 0])))]) rfl rfl rfl rfl rfl rfl rfl rfl rfl rfl rfl) ?_
  refine O_putF (Ov' := [(6, aR G 3 6 [27, 31, 35, 39, 43, 47] 0), (2, aR G 2 5 [18, 20, 22, 24, 26] 0), (1, aR G 2 5 [17, 19, 21, 23, 25] 0), (0, .inl (.inr (0, [.ref (xg G 1), .ref (xg G 2), .ref (xg G 3), .ref (xg G 4), .ref (xg G 5), .ref (xg G 6), .ref (xg G 7), .null, .null, .null, .int 0, .int 0, .int 0, .int 0, .int 0])))]) fp_X_37 rfl rfl rfl rfl (Nat.le_of_ble_eq_true rfl) rfl d_X_init_67 ?_
  refine X_aload_n d_X_init_70 rfl rfl ?_
  refine O_newO (ci := 3) (fs := [.null, .null, .int 0, .int 0, .int 0, .int 0, .int 0, .int 0, .int 0]) t_Reader t_Reader_ok rfl i_Reader cl_X_41 is_Reader in_Reader (fun j hj => by match j, hj with | 0, _ => rfl | 1, _ => rfl | 2, _ => rfl | 3, _ => rfl | 4, _ => rfl | 5, _ => rfl | 6, _ => rfl | 7, _ => rfl | 8, _ => rfl) (Nat.le_of_ble_eq_true rfl) (Nat.le_of_ble_eq_true rfl) d_X_init_71 ?_
  refine X_dup d_X_init_74 rfl ?_
  refine X_callIJ (rest := [.ref (xg G 11), .ref (xg G 0)]) PX_to (c_Reader_init l G (d := d - 1) (by omega) q v 12 11 _ (by decide) (mO_g rfl)) lk_Reader_init ml_X_43 rfl (Nat.le_of_ble_eq_true rfl) (xRok (d' := d - 1) (by omega) (by decide)) ⟨(Nat.le_of_ble_eq_true rfl), (Nat.le_of_ble_eq_true rfl)⟩ d_X_init_75 rfl ?_
  refine X_le (xle_of (mO_reader (Ov := [(6, aR G 3 6 [27, 31, 35, 39, 43, 47] 0), (2, aR G 2 5 [18, 20, 22, 24, 26] 0), (1, aR G 2 5 [17, 19, 21, 23, 25] 0), (0, .inl (.inr (0, [.ref (xg G 1), .ref (xg G 2), .ref (xg G 3), .ref (xg G 4), .ref (xg G 5), .ref (xg G 6), .ref (xg G 7), .null, .null, .null, .int 0, .int 0, .int 0, .int 0, .int 0])))]) rfl rfl rfl)) ?_
  refine O_putF (Ov' := [(6, aR G 3 6 [27, 31, 35, 39, 43, 47] 0), (2, aR G 2 5 [18, 20, 22, 24, 26] 0), (1, aR G 2 5 [17, 19, 21, 23, 25] 0), (0, .inl (.inr (0, [.ref (xg G 1), .ref (xg G 2), .ref (xg G 3), .ref (xg G 4), .ref (xg G 5), .ref (xg G 6), .ref (xg G 7), .ref (xg G 11), .null, .null, .int 0, .int 0, .int 0, .int 0, .int 0])))]) fp_X_44 rfl rfl rfl rfl (Nat.le_of_ble_eq_true rfl) rfl d_X_init_78 ?_
  refine X_aload_n d_X_init_81 rfl rfl ?_
  refine X_iconst (v := 4) d_X_init_82 rfl ?_
  refine O_anew (N' := 4) (t := 4) (C := R_Sheet) [51, 53, 55, 57] cl_X_48 (by decide) rfl (by decide) rfl (by decide) (Nat.le_of_ble_eq_true rfl) (Nat.le_of_ble_eq_true rfl) d_X_init_83 ?_
  refine O_putF (Ov' := [(14, aR G 4 4 [51, 53, 55, 57] 0), (6, aR G 3 6 [27, 31, 35, 39, 43, 47] 0), (2, aR G 2 5 [18, 20, 22, 24, 26] 0), (1, aR G 2 5 [17, 19, 21, 23, 25] 0), (0, .inl (.inr (0, [.ref (xg G 1), .ref (xg G 2), .ref (xg G 3), .ref (xg G 4), .ref (xg G 5), .ref (xg G 6), .ref (xg G 7), .ref (xg G 11), .ref (xg G 14), .null, .int 0, .int 0, .int 0, .int 0, .int 0])))]) fp_X_50 rfl rfl rfl rfl (Nat.le_of_ble_eq_true rfl) rfl d_X_init_86 ?_
  refine X_aload_n d_X_init_89 rfl rfl ?_
  refine O_newO (ci := 4) (fs := [.null, .int 0, .int 0]) t_Sheet t_Sheet_ok rfl i_Sheet cl_X_48 is_Sheet in_Sheet (fun j hj => by match j, hj with | 0, _ => rfl | 1, _ => rfl | 2, _ => rfl) (Nat.le_of_ble_eq_true rfl) (Nat.le_of_ble_eq_true rfl) d_X_init_90 ?_
  refine X_dup d_X_init_93 rfl ?_
  refine X_callIN (rest := [.ref (xg G 15), .ref (xg G 0)]) (c_Sheet_init l G (d := d - 1) (by omega) 16 15 _ (by decide) (mO_g rfl)) lk_Sheet_init mn_X_54 rfl (Nat.le_of_ble_eq_true rfl) (xRok (d' := d - 1) (by omega) (by decide)) ⟨(Nat.le_of_ble_eq_true rfl), (Nat.le_of_ble_eq_true rfl)⟩ d_X_init_94 rfl ?_
  refine X_le (xle_of (mO_sheet (Ov := [(14, aR G 4 4 [51, 53, 55, 57] 0), (6, aR G 3 6 [27, 31, 35, 39, 43, 47] 0), (2, aR G 2 5 [18, 20, 22, 24, 26] 0), (1, aR G 2 5 [17, 19, 21, 23, 25] 0), (0, .inl (.inr (0, [.ref (xg G 1), .ref (xg G 2), .ref (xg G 3), .ref (xg G 4), .ref (xg G 5), .ref (xg G 6), .ref (xg G 7), .ref (xg G 11), .ref (xg G 14), .null, .int 0, .int 0, .int 0, .int 0, .int 0])))]) rfl rfl rfl rfl rfl rfl)) ?_
  refine O_putF (Ov' := [(14, aR G 4 4 [51, 53, 55, 57] 0), (6, aR G 3 6 [27, 31, 35, 39, 43, 47] 0), (2, aR G 2 5 [18, 20, 22, 24, 26] 0), (1, aR G 2 5 [17, 19, 21, 23, 25] 0), (0, .inl (.inr (0, [.ref (xg G 1), .ref (xg G 2), .ref (xg G 3), .ref (xg G 4), .ref (xg G 5), .ref (xg G 6), .ref (xg G 7), .ref (xg G 11), .ref (xg G 14), .ref (xg G 15), .int 0, .int 0, .int 0, .int 0, .int 0])))]) fp_X_55 rfl rfl rfl rfl (Nat.le_of_ble_eq_true rfl) rfl d_X_init_97 ?_
  refine X_aload_n d_X_init_100 rfl rfl ?_
  refine X_iconst (v := 0) d_X_init_101 rfl ?_
  refine O_putN (Ov' := [(14, aR G 4 4 [51, 53, 55, 57] 0), (6, aR G 3 6 [27, 31, 35, 39, 43, 47] 0), (2, aR G 2 5 [18, 20, 22, 24, 26] 0), (1, aR G 2 5 [17, 19, 21, 23, 25] 0), (0, .inl (.inr (0, [.ref (xg G 1), .ref (xg G 2), .ref (xg G 3), .ref (xg G 4), .ref (xg G 5), .ref (xg G 6), .ref (xg G 7), .ref (xg G 11), .ref (xg G 14), .ref (xg G 15), .int 0, .int 0, .int 0, .int 0, .int 0])))]) fp_X_59 rfl rfl rfl (Nat.le_of_ble_eq_true rfl) rfl d_X_init_102 ?_
  refine X_aload_n d_X_init_105 rfl rfl ?_
  refine X_iconst (v := 0) d_X_init_106 rfl ?_
  refine O_putN (Ov' := [(14, aR G 4 4 [51, 53, 55, 57] 0), (6, aR G 3 6 [27, 31, 35, 39, 43, 47] 0), (2, aR G 2 5 [18, 20, 22, 24, 26] 0), (1, aR G 2 5 [17, 19, 21, 23, 25] 0), (0, .inl (.inr (0, [.ref (xg G 1), .ref (xg G 2), .ref (xg G 3), .ref (xg G 4), .ref (xg G 5), .ref (xg G 6), .ref (xg G 7), .ref (xg G 11), .ref (xg G 14), .ref (xg G 15), .int 0, .int 0, .int 0, .int 0, .int 0])))]) fp_X_63 rfl rfl rfl (Nat.le_of_ble_eq_true rfl) rfl d_X_init_107 ?_
  refine X_aload_n d_X_init_110 rfl rfl ?_
  refine X_iconst (v := 0) d_X_init_111 rfl ?_
  refine O_putN (Ov' := [(14, aR G 4 4 [51, 53, 55, 57] 0), (6, aR G 3 6 [27, 31, 35, 39, 43, 47] 0), (2, aR G 2 5 [18, 20, 22, 24, 26] 0), (1, aR G 2 5 [17, 19, 21, 23, 25] 0), (0, .inl (.inr (0, [.ref (xg G 1), .ref (xg G 2), .ref (xg G 3), .ref (xg G 4), .ref (xg G 5), .ref (xg G 6), .ref (xg G 7), .ref (xg G 11), .ref (xg G 14), .ref (xg G 15), .int 0, .int 0, .int 0, .int 0, .int 0])))]) fp_X_66 rfl rfl rfl (Nat.le_of_ble_eq_true rfl) rfl d_X_init_112 ?_
  refine X_aload_n d_X_init_115 rfl rfl ?_
  refine X_iconst (v := (-1)) d_X_init_116 rfl ?_
  refine O_putN (Ov' := [(14, aR G 4 4 [51, 53, 55, 57] 0), (6, aR G 3 6 [27, 31, 35, 39, 43, 47] 0), (2, aR G 2 5 [18, 20, 22, 24, 26] 0), (1, aR G 2 5 [17, 19, 21, 23, 25] 0), (0, .inl (.inr (0, [.ref (xg G 1), .ref (xg G 2), .ref (xg G 3), .ref (xg G 4), .ref (xg G 5), .ref (xg G 6), .ref (xg G 7), .ref (xg G 11), .ref (xg G 14), .ref (xg G 15), .int 0, .int 0, .int 0, .int (-1), .int 0])))]) fp_X_69 rfl rfl rfl (Nat.le_of_ble_eq_true rfl) rfl d_X_init_117 ?_
  refine X_aload_n d_X_init_120 rfl rfl ?_
  refine X_iconst (v := 0) d_X_init_121 rfl ?_
  refine O_putN (Ov' := [(14, aR G 4 4 [51, 53, 55, 57] 0), (6, aR G 3 6 [27, 31, 35, 39, 43, 47] 0), (2, aR G 2 5 [18, 20, 22, 24, 26] 0), (1, aR G 2 5 [17, 19, 21, 23, 25] 0), (0, .inl (.inr (0, [.ref (xg G 1), .ref (xg G 2), .ref (xg G 3), .ref (xg G 4), .ref (xg G 5), .ref (xg G 6), .ref (xg G 7), .ref (xg G 11), .ref (xg G 14), .ref (xg G 15), .int 0, .int 0, .int 0, .int (-1), .int 0])))]) fp_X_72 rfl rfl rfl (Nat.le_of_ble_eq_true rfl) rfl d_X_init_122 ?_
  refine X_iconst (v := 0) d_X_init_125 rfl ?_
  refine X_istore_n d_X_init_126 rfl (by decide) [1, 0] (L' := [(0, .ref (xg G 0)), (1, .int 0)]) rfl ?_
  refine X_iload_n d_X_init_127 rfl rfl ?_
  refine X_iconst (v := 5) d_X_init_128 rfl ?_
  refine X_icmp_ge (tgt := 164) d_X_init_129 (by decide) (fun z => absurd z (by decide)) (fun _ => ?_)
  refine X_aload_n d_X_init_132 rfl rfl ?_
  refine X_getfield 0 fg_X_11 (mO_g rfl) rfl d_X_init_133 ?_
  refine X_iload_n d_X_init_136 rfl rfl ?_
  refine O_new (ci := 1) (fs := [.int 0, .int 0, .int 0, .int 0, .int 0, .int 0, .int 0, .int 0]) (sh := sHead) rfl rfl rfl t_Head t_Head_ok rfl i_Head cl_X_9 is_Head in_Head (fun j hj => by match j, hj with | 0, _ => rfl | 1, _ => rfl | 2, _ => rfl | 3, _ => rfl | 4, _ => rfl | 5, _ => rfl | 6, _ => rfl | 7, _ => rfl) (Nat.le_of_ble_eq_true rfl) (Nat.le_of_ble_eq_true rfl) d_X_init_137 ?_
  refine X_dup d_X_init_140 rfl ?_
  refine X_callIN (rest := [.ref (xg G 17), .int 0, .ref (xg G 1)]) (c_Head_init l G (d := d - 1) (by omega) 18 17 _) lk_Head_init mn_X_18 rfl (Nat.le_of_ble_eq_true rfl) (xRok (d' := d - 1) (by omega) (by decide)) ⟨(Nat.le_of_ble_eq_true rfl), (Nat.le_of_ble_eq_true rfl)⟩ d_X_init_141 rfl ?_
  refine O_aast (N := 5) (rs := [17, 19, 21, 23, 25]) (i' := 0) (v := 17) (ci := 1) (Ov' := [(14, aR G 4 4 [51, 53, 55, 57] 0), (6, aR G 3 6 [27, 31, 35, 39, 43, 47] 0), (2, aR G 2 5 [18, 20, 22, 24, 26] 0), (1, aR G 2 5 [17, 19, 21, 23, 25] 1), (0, .inl (.inr (0, [.ref (xg G 1), .ref (xg G 2), .ref (xg G 3), .ref (xg G 4), .ref (xg G 5), .ref (xg G 6), .ref (xg G 7), .ref (xg G 11), .ref (xg G 14), .ref (xg G 15), .int 0, .int 0, .int 0, .int (-1), .int 0])))]) rfl rfl rfl rfl (mO_b rfl) rfl (vp_in_nI (show 0 < 5 by decide) (by decide)) rfl d_X_init_144 ?_
  refine X_aload_n d_X_init_145 rfl rfl ?_
  refine X_getfield 1 fg_X_15 (mO_g rfl) rfl d_X_init_146 ?_
  refine X_iload_n d_X_init_149 rfl rfl ?_
  refine O_new (ci := 1) (fs := [.int 0, .int 0, .int 0, .int 0, .int 0, .int 0, .int 0, .int 0]) (sh := sHead) rfl rfl rfl t_Head t_Head_ok rfl i_Head cl_X_9 is_Head in_Head (fun j hj => by match j, hj with | 0, _ => rfl | 1, _ => rfl | 2, _ => rfl | 3, _ => rfl | 4, _ => rfl | 5, _ => rfl | 6, _ => rfl | 7, _ => rfl) (Nat.le_of_ble_eq_true rfl) (Nat.le_of_ble_eq_true rfl) d_X_init_150 ?_
  refine X_dup d_X_init_153 rfl ?_
  refine X_callIN (rest := [.ref (xg G 18), .int 0, .ref (xg G 2)]) (c_Head_init l G (d := d - 1) (by omega) 19 18 _) lk_Head_init mn_X_18 rfl (Nat.le_of_ble_eq_true rfl) (xRok (d' := d - 1) (by omega) (by decide)) ⟨(Nat.le_of_ble_eq_true rfl), (Nat.le_of_ble_eq_true rfl)⟩ d_X_init_154 rfl ?_
  refine O_aast (N := 5) (rs := [18, 20, 22, 24, 26]) (i' := 0) (v := 18) (ci := 1) (Ov' := [(14, aR G 4 4 [51, 53, 55, 57] 0), (6, aR G 3 6 [27, 31, 35, 39, 43, 47] 0), (2, aR G 2 5 [18, 20, 22, 24, 26] 1), (1, aR G 2 5 [17, 19, 21, 23, 25] 1), (0, .inl (.inr (0, [.ref (xg G 1), .ref (xg G 2), .ref (xg G 3), .ref (xg G 4), .ref (xg G 5), .ref (xg G 6), .ref (xg G 7), .ref (xg G 11), .ref (xg G 14), .ref (xg G 15), .int 0, .int 0, .int 0, .int (-1), .int 0])))]) rfl rfl rfl rfl (mO_b rfl) rfl (vp_in_nI (show 0 < 5 by decide) (by decide)) rfl d_X_init_157 ?_
  refine X_iinc d_X_init_158 rfl (v := 1) (by decide) (by decide) [1, 0] (L' := [(0, .ref (xg G 0)), (1, .int 1)]) rfl ?_
  refine X_goto (tgt := 127) d_X_init_161 (by decide) ?_
  refine X_iload_n d_X_init_127 rfl rfl ?_
  refine X_iconst (v := 5) d_X_init_128 rfl ?_
  refine X_icmp_ge (tgt := 164) d_X_init_129 (by decide) (fun z => absurd z (by decide)) (fun _ => ?_)
  refine X_aload_n d_X_init_132 rfl rfl ?_
  refine X_getfield 0 fg_X_11 (mO_g rfl) rfl d_X_init_133 ?_
  refine X_iload_n d_X_init_136 rfl rfl ?_
  refine O_new (ci := 1) (fs := [.int 0, .int 0, .int 0, .int 0, .int 0, .int 0, .int 0, .int 0]) (sh := sHead) rfl rfl rfl t_Head t_Head_ok rfl i_Head cl_X_9 is_Head in_Head (fun j hj => by match j, hj with | 0, _ => rfl | 1, _ => rfl | 2, _ => rfl | 3, _ => rfl | 4, _ => rfl | 5, _ => rfl | 6, _ => rfl | 7, _ => rfl) (Nat.le_of_ble_eq_true rfl) (Nat.le_of_ble_eq_true rfl) d_X_init_137 ?_
  refine X_dup d_X_init_140 rfl ?_
  refine X_callIN (rest := [.ref (xg G 19), .int 1, .ref (xg G 1)]) (c_Head_init l G (d := d - 1) (by omega) 20 19 _) lk_Head_init mn_X_18 rfl (Nat.le_of_ble_eq_true rfl) (xRok (d' := d - 1) (by omega) (by decide)) ⟨(Nat.le_of_ble_eq_true rfl), (Nat.le_of_ble_eq_true rfl)⟩ d_X_init_141 rfl ?_
  refine O_aast (N := 5) (rs := [17, 19, 21, 23, 25]) (i' := 1) (v := 19) (ci := 1) (Ov' := [(14, aR G 4 4 [51, 53, 55, 57] 0), (6, aR G 3 6 [27, 31, 35, 39, 43, 47] 0), (2, aR G 2 5 [18, 20, 22, 24, 26] 1), (1, aR G 2 5 [17, 19, 21, 23, 25] 2), (0, .inl (.inr (0, [.ref (xg G 1), .ref (xg G 2), .ref (xg G 3), .ref (xg G 4), .ref (xg G 5), .ref (xg G 6), .ref (xg G 7), .ref (xg G 11), .ref (xg G 14), .ref (xg G 15), .int 0, .int 0, .int 0, .int (-1), .int 0])))]) rfl rfl rfl rfl (mO_b rfl) rfl (vp_in_nI (show 1 < 5 by decide) (by decide)) rfl d_X_init_144 ?_
  refine X_aload_n d_X_init_145 rfl rfl ?_
  refine X_getfield 1 fg_X_15 (mO_g rfl) rfl d_X_init_146 ?_
  refine X_iload_n d_X_init_149 rfl rfl ?_
  refine O_new (ci := 1) (fs := [.int 0, .int 0, .int 0, .int 0, .int 0, .int 0, .int 0, .int 0]) (sh := sHead) rfl rfl rfl t_Head t_Head_ok rfl i_Head cl_X_9 is_Head in_Head (fun j hj => by match j, hj with | 0, _ => rfl | 1, _ => rfl | 2, _ => rfl | 3, _ => rfl | 4, _ => rfl | 5, _ => rfl | 6, _ => rfl | 7, _ => rfl) (Nat.le_of_ble_eq_true rfl) (Nat.le_of_ble_eq_true rfl) d_X_init_150 ?_
  refine X_dup d_X_init_153 rfl ?_
  refine X_callIN (rest := [.ref (xg G 20), .int 1, .ref (xg G 2)]) (c_Head_init l G (d := d - 1) (by omega) 21 20 _) lk_Head_init mn_X_18 rfl (Nat.le_of_ble_eq_true rfl) (xRok (d' := d - 1) (by omega) (by decide)) ⟨(Nat.le_of_ble_eq_true rfl), (Nat.le_of_ble_eq_true rfl)⟩ d_X_init_154 rfl ?_
  refine O_aast (N := 5) (rs := [18, 20, 22, 24, 26]) (i' := 1) (v := 20) (ci := 1) (Ov' := [(14, aR G 4 4 [51, 53, 55, 57] 0), (6, aR G 3 6 [27, 31, 35, 39, 43, 47] 0), (2, aR G 2 5 [18, 20, 22, 24, 26] 2), (1, aR G 2 5 [17, 19, 21, 23, 25] 2), (0, .inl (.inr (0, [.ref (xg G 1), .ref (xg G 2), .ref (xg G 3), .ref (xg G 4), .ref (xg G 5), .ref (xg G 6), .ref (xg G 7), .ref (xg G 11), .ref (xg G 14), .ref (xg G 15), .int 0, .int 0, .int 0, .int (-1), .int 0])))]) rfl rfl rfl rfl (mO_b rfl) rfl (vp_in_nI (show 1 < 5 by decide) (by decide)) rfl d_X_init_157 ?_
  refine X_iinc d_X_init_158 rfl (v := 2) (by decide) (by decide) [1, 0] (L' := [(0, .ref (xg G 0)), (1, .int 2)]) rfl ?_
  refine X_goto (tgt := 127) d_X_init_161 (by decide) ?_
  refine X_iload_n d_X_init_127 rfl rfl ?_
  refine X_iconst (v := 5) d_X_init_128 rfl ?_
  refine X_icmp_ge (tgt := 164) d_X_init_129 (by decide) (fun z => absurd z (by decide)) (fun _ => ?_)
  refine X_aload_n d_X_init_132 rfl rfl ?_
  refine X_getfield 0 fg_X_11 (mO_g rfl) rfl d_X_init_133 ?_
  refine X_iload_n d_X_init_136 rfl rfl ?_
  refine O_new (ci := 1) (fs := [.int 0, .int 0, .int 0, .int 0, .int 0, .int 0, .int 0, .int 0]) (sh := sHead) rfl rfl rfl t_Head t_Head_ok rfl i_Head cl_X_9 is_Head in_Head (fun j hj => by match j, hj with | 0, _ => rfl | 1, _ => rfl | 2, _ => rfl | 3, _ => rfl | 4, _ => rfl | 5, _ => rfl | 6, _ => rfl | 7, _ => rfl) (Nat.le_of_ble_eq_true rfl) (Nat.le_of_ble_eq_true rfl) d_X_init_137 ?_
  refine X_dup d_X_init_140 rfl ?_
  refine X_callIN (rest := [.ref (xg G 21), .int 2, .ref (xg G 1)]) (c_Head_init l G (d := d - 1) (by omega) 22 21 _) lk_Head_init mn_X_18 rfl (Nat.le_of_ble_eq_true rfl) (xRok (d' := d - 1) (by omega) (by decide)) ⟨(Nat.le_of_ble_eq_true rfl), (Nat.le_of_ble_eq_true rfl)⟩ d_X_init_141 rfl ?_
  refine O_aast (N := 5) (rs := [17, 19, 21, 23, 25]) (i' := 2) (v := 21) (ci := 1) (Ov' := [(14, aR G 4 4 [51, 53, 55, 57] 0), (6, aR G 3 6 [27, 31, 35, 39, 43, 47] 0), (2, aR G 2 5 [18, 20, 22, 24, 26] 2), (1, aR G 2 5 [17, 19, 21, 23, 25] 3), (0, .inl (.inr (0, [.ref (xg G 1), .ref (xg G 2), .ref (xg G 3), .ref (xg G 4), .ref (xg G 5), .ref (xg G 6), .ref (xg G 7), .ref (xg G 11), .ref (xg G 14), .ref (xg G 15), .int 0, .int 0, .int 0, .int (-1), .int 0])))]) rfl rfl rfl rfl (mO_b rfl) rfl (vp_in_nI (show 2 < 5 by decide) (by decide)) rfl d_X_init_144 ?_
  refine X_aload_n d_X_init_145 rfl rfl ?_
  refine X_getfield 1 fg_X_15 (mO_g rfl) rfl d_X_init_146 ?_
  refine X_iload_n d_X_init_149 rfl rfl ?_
  refine O_new (ci := 1) (fs := [.int 0, .int 0, .int 0, .int 0, .int 0, .int 0, .int 0, .int 0]) (sh := sHead) rfl rfl rfl t_Head t_Head_ok rfl i_Head cl_X_9 is_Head in_Head (fun j hj => by match j, hj with | 0, _ => rfl | 1, _ => rfl | 2, _ => rfl | 3, _ => rfl | 4, _ => rfl | 5, _ => rfl | 6, _ => rfl | 7, _ => rfl) (Nat.le_of_ble_eq_true rfl) (Nat.le_of_ble_eq_true rfl) d_X_init_150 ?_
  refine X_dup d_X_init_153 rfl ?_
  refine X_callIN (rest := [.ref (xg G 22), .int 2, .ref (xg G 2)]) (c_Head_init l G (d := d - 1) (by omega) 23 22 _) lk_Head_init mn_X_18 rfl (Nat.le_of_ble_eq_true rfl) (xRok (d' := d - 1) (by omega) (by decide)) ⟨(Nat.le_of_ble_eq_true rfl), (Nat.le_of_ble_eq_true rfl)⟩ d_X_init_154 rfl ?_
  refine O_aast (N := 5) (rs := [18, 20, 22, 24, 26]) (i' := 2) (v := 22) (ci := 1) (Ov' := [(14, aR G 4 4 [51, 53, 55, 57] 0), (6, aR G 3 6 [27, 31, 35, 39, 43, 47] 0), (2, aR G 2 5 [18, 20, 22, 24, 26] 3), (1, aR G 2 5 [17, 19, 21, 23, 25] 3), (0, .inl (.inr (0, [.ref (xg G 1), .ref (xg G 2), .ref (xg G 3), .ref (xg G 4), .ref (xg G 5), .ref (xg G 6), .ref (xg G 7), .ref (xg G 11), .ref (xg G 14), .ref (xg G 15), .int 0, .int 0, .int 0, .int (-1), .int 0])))]) rfl rfl rfl rfl (mO_b rfl) rfl (vp_in_nI (show 2 < 5 by decide) (by decide)) rfl d_X_init_157 ?_
  refine X_iinc d_X_init_158 rfl (v := 3) (by decide) (by decide) [1, 0] (L' := [(0, .ref (xg G 0)), (1, .int 3)]) rfl ?_
  refine X_goto (tgt := 127) d_X_init_161 (by decide) ?_
  refine X_iload_n d_X_init_127 rfl rfl ?_
  refine X_iconst (v := 5) d_X_init_128 rfl ?_
  refine X_icmp_ge (tgt := 164) d_X_init_129 (by decide) (fun z => absurd z (by decide)) (fun _ => ?_)
  refine X_aload_n d_X_init_132 rfl rfl ?_
  refine X_getfield 0 fg_X_11 (mO_g rfl) rfl d_X_init_133 ?_
  refine X_iload_n d_X_init_136 rfl rfl ?_
  refine O_new (ci := 1) (fs := [.int 0, .int 0, .int 0, .int 0, .int 0, .int 0, .int 0, .int 0]) (sh := sHead) rfl rfl rfl t_Head t_Head_ok rfl i_Head cl_X_9 is_Head in_Head (fun j hj => by match j, hj with | 0, _ => rfl | 1, _ => rfl | 2, _ => rfl | 3, _ => rfl | 4, _ => rfl | 5, _ => rfl | 6, _ => rfl | 7, _ => rfl) (Nat.le_of_ble_eq_true rfl) (Nat.le_of_ble_eq_true rfl) d_X_init_137 ?_
  refine X_dup d_X_init_140 rfl ?_
  refine X_callIN (rest := [.ref (xg G 23), .int 3, .ref (xg G 1)]) (c_Head_init l G (d := d - 1) (by omega) 24 23 _) lk_Head_init mn_X_18 rfl (Nat.le_of_ble_eq_true rfl) (xRok (d' := d - 1) (by omega) (by decide)) ⟨(Nat.le_of_ble_eq_true rfl), (Nat.le_of_ble_eq_true rfl)⟩ d_X_init_141 rfl ?_
  refine O_aast (N := 5) (rs := [17, 19, 21, 23, 25]) (i' := 3) (v := 23) (ci := 1) (Ov' := [(14, aR G 4 4 [51, 53, 55, 57] 0), (6, aR G 3 6 [27, 31, 35, 39, 43, 47] 0), (2, aR G 2 5 [18, 20, 22, 24, 26] 3), (1, aR G 2 5 [17, 19, 21, 23, 25] 4), (0, .inl (.inr (0, [.ref (xg G 1), .ref (xg G 2), .ref (xg G 3), .ref (xg G 4), .ref (xg G 5), .ref (xg G 6), .ref (xg G 7), .ref (xg G 11), .ref (xg G 14), .ref (xg G 15), .int 0, .int 0, .int 0, .int (-1), .int 0])))]) rfl rfl rfl rfl (mO_b rfl) rfl (vp_in_nI (show 3 < 5 by decide) (by decide)) rfl d_X_init_144 ?_
  refine X_aload_n d_X_init_145 rfl rfl ?_
  refine X_getfield 1 fg_X_15 (mO_g rfl) rfl d_X_init_146 ?_
  refine X_iload_n d_X_init_149 rfl rfl ?_
  refine O_new (ci := 1) (fs := [.int 0, .int 0, .int 0, .int 0, .int 0, .int 0, .int 0, .int 0]) (sh := sHead) rfl rfl rfl t_Head t_Head_ok rfl i_Head cl_X_9 is_Head in_Head (fun j hj => by match j, hj with | 0, _ => rfl | 1, _ => rfl | 2, _ => rfl | 3, _ => rfl | 4, _ => rfl | 5, _ => rfl | 6, _ => rfl | 7, _ => rfl) (Nat.le_of_ble_eq_true rfl) (Nat.le_of_ble_eq_true rfl) d_X_init_150 ?_
  refine X_dup d_X_init_153 rfl ?_
  refine X_callIN (rest := [.ref (xg G 24), .int 3, .ref (xg G 2)]) (c_Head_init l G (d := d - 1) (by omega) 25 24 _) lk_Head_init mn_X_18 rfl (Nat.le_of_ble_eq_true rfl) (xRok (d' := d - 1) (by omega) (by decide)) ⟨(Nat.le_of_ble_eq_true rfl), (Nat.le_of_ble_eq_true rfl)⟩ d_X_init_154 rfl ?_
  refine O_aast (N := 5) (rs := [18, 20, 22, 24, 26]) (i' := 3) (v := 24) (ci := 1) (Ov' := [(14, aR G 4 4 [51, 53, 55, 57] 0), (6, aR G 3 6 [27, 31, 35, 39, 43, 47] 0), (2, aR G 2 5 [18, 20, 22, 24, 26] 4), (1, aR G 2 5 [17, 19, 21, 23, 25] 4), (0, .inl (.inr (0, [.ref (xg G 1), .ref (xg G 2), .ref (xg G 3), .ref (xg G 4), .ref (xg G 5), .ref (xg G 6), .ref (xg G 7), .ref (xg G 11), .ref (xg G 14), .ref (xg G 15), .int 0, .int 0, .int 0, .int (-1), .int 0])))]) rfl rfl rfl rfl (mO_b rfl) rfl (vp_in_nI (show 3 < 5 by decide) (by decide)) rfl d_X_init_157 ?_
  refine X_iinc d_X_init_158 rfl (v := 4) (by decide) (by decide) [1, 0] (L' := [(0, .ref (xg G 0)), (1, .int 4)]) rfl ?_
  refine X_goto (tgt := 127) d_X_init_161 (by decide) ?_
  refine X_iload_n d_X_init_127 rfl rfl ?_
  refine X_iconst (v := 5) d_X_init_128 rfl ?_
  refine X_icmp_ge (tgt := 164) d_X_init_129 (by decide) (fun z => absurd z (by decide)) (fun _ => ?_)
  refine X_aload_n d_X_init_132 rfl rfl ?_
  refine X_getfield 0 fg_X_11 (mO_g rfl) rfl d_X_init_133 ?_
  refine X_iload_n d_X_init_136 rfl rfl ?_
  refine O_new (ci := 1) (fs := [.int 0, .int 0, .int 0, .int 0, .int 0, .int 0, .int 0, .int 0]) (sh := sHead) rfl rfl rfl t_Head t_Head_ok rfl i_Head cl_X_9 is_Head in_Head (fun j hj => by match j, hj with | 0, _ => rfl | 1, _ => rfl | 2, _ => rfl | 3, _ => rfl | 4, _ => rfl | 5, _ => rfl | 6, _ => rfl | 7, _ => rfl) (Nat.le_of_ble_eq_true rfl) (Nat.le_of_ble_eq_true rfl) d_X_init_137 ?_
  refine X_dup d_X_init_140 rfl ?_
  refine X_callIN (rest := [.ref (xg G 25), .int 4, .ref (xg G 1)]) (c_Head_init l G (d := d - 1) (by omega) 26 25 _) lk_Head_init mn_X_18 rfl (Nat.le_of_ble_eq_true rfl) (xRok (d' := d - 1) (by omega) (by decide)) ⟨(Nat.le_of_ble_eq_true rfl), (Nat.le_of_ble_eq_true rfl)⟩ d_X_init_141 rfl ?_
  refine O_aast (N := 5) (rs := [17, 19, 21, 23, 25]) (i' := 4) (v := 25) (ci := 1) (Ov' := [(14, aR G 4 4 [51, 53, 55, 57] 0), (6, aR G 3 6 [27, 31, 35, 39, 43, 47] 0), (2, aR G 2 5 [18, 20, 22, 24, 26] 4), (1, aR G 2 5 [17, 19, 21, 23, 25] 5), (0, .inl (.inr (0, [.ref (xg G 1), .ref (xg G 2), .ref (xg G 3), .ref (xg G 4), .ref (xg G 5), .ref (xg G 6), .ref (xg G 7), .ref (xg G 11), .ref (xg G 14), .ref (xg G 15), .int 0, .int 0, .int 0, .int (-1), .int 0])))]) rfl rfl rfl rfl (mO_b rfl) rfl (vp_in_nI (show 4 < 5 by decide) (by decide)) rfl d_X_init_144 ?_
  refine X_aload_n d_X_init_145 rfl rfl ?_
  refine X_getfield 1 fg_X_15 (mO_g rfl) rfl d_X_init_146 ?_
  refine X_iload_n d_X_init_149 rfl rfl ?_
  refine O_new (ci := 1) (fs := [.int 0, .int 0, .int 0, .int 0, .int 0, .int 0, .int 0, .int 0]) (sh := sHead) rfl rfl rfl t_Head t_Head_ok rfl i_Head cl_X_9 is_Head in_Head (fun j hj => by match j, hj with | 0, _ => rfl | 1, _ => rfl | 2, _ => rfl | 3, _ => rfl | 4, _ => rfl | 5, _ => rfl | 6, _ => rfl | 7, _ => rfl) (Nat.le_of_ble_eq_true rfl) (Nat.le_of_ble_eq_true rfl) d_X_init_150 ?_
  refine X_dup d_X_init_153 rfl ?_
  refine X_callIN (rest := [.ref (xg G 26), .int 4, .ref (xg G 2)]) (c_Head_init l G (d := d - 1) (by omega) 27 26 _) lk_Head_init mn_X_18 rfl (Nat.le_of_ble_eq_true rfl) (xRok (d' := d - 1) (by omega) (by decide)) ⟨(Nat.le_of_ble_eq_true rfl), (Nat.le_of_ble_eq_true rfl)⟩ d_X_init_154 rfl ?_
  refine O_aast (N := 5) (rs := [18, 20, 22, 24, 26]) (i' := 4) (v := 26) (ci := 1) (Ov' := [(14, aR G 4 4 [51, 53, 55, 57] 0), (6, aR G 3 6 [27, 31, 35, 39, 43, 47] 0), (2, aR G 2 5 [18, 20, 22, 24, 26] 5), (1, aR G 2 5 [17, 19, 21, 23, 25] 5), (0, .inl (.inr (0, [.ref (xg G 1), .ref (xg G 2), .ref (xg G 3), .ref (xg G 4), .ref (xg G 5), .ref (xg G 6), .ref (xg G 7), .ref (xg G 11), .ref (xg G 14), .ref (xg G 15), .int 0, .int 0, .int 0, .int (-1), .int 0])))]) rfl rfl rfl rfl (mO_b rfl) rfl (vp_in_nI (show 4 < 5 by decide) (by decide)) rfl d_X_init_157 ?_
  refine X_iinc d_X_init_158 rfl (v := 5) (by decide) (by decide) [1, 0] (L' := [(0, .ref (xg G 0)), (1, .int 5)]) rfl ?_
  refine X_goto (tgt := 127) d_X_init_161 (by decide) ?_
  refine X_iload_n d_X_init_127 rfl rfl ?_
  refine X_iconst (v := 5) d_X_init_128 rfl ?_
  refine X_icmp_ge (tgt := 164) d_X_init_129 (by decide) (fun _ => ?_) (fun z => absurd (by decide) z)
  refine X_iconst (v := 0) d_X_init_164 rfl ?_
  refine X_istore_n d_X_init_165 rfl (by decide) [1, 0] (L' := [(0, .ref (xg G 0)), (1, .int 0)]) rfl ?_
  refine X_iload_n d_X_init_166 rfl rfl ?_
  refine X_bipush (v := 6) d_X_init_167 rfl ?_
  refine X_icmp_ge (tgt := 191) d_X_init_169 (by decide) (fun z => absurd z (by decide)) (fun _ => ?_)
  refine X_aload_n d_X_init_172 rfl rfl ?_
  refine X_getfield 5 fg_X_32 (mO_g rfl) rfl d_X_init_173 ?_
  refine X_iload_n d_X_init_176 rfl rfl ?_
  refine O_newO (ci := 2) (fs := [.null, .null, .null, .int 0, .int 0]) t_Text t_Text_ok rfl i_Text cl_X_30 is_Text in_Text (fun j hj => by match j, hj with | 0, _ => rfl | 1, _ => rfl | 2, _ => rfl | 3, _ => rfl | 4, _ => rfl) (Nat.le_of_ble_eq_true rfl) (Nat.le_of_ble_eq_true rfl) d_X_init_177 ?_
  refine X_dup d_X_init_180 rfl ?_
  refine X_callIN (rest := [.ref (xg G 27), .int 0, .ref (xg G 6)]) (c_Text_init l G (d := d - 1) (by omega) 28 27 _ (by decide) (mO_g rfl)) lk_Text_init mn_X_36 rfl (Nat.le_of_ble_eq_true rfl) (xRok (d' := d - 1) (by omega) (by decide)) ⟨(Nat.le_of_ble_eq_true rfl), (Nat.le_of_ble_eq_true rfl)⟩ d_X_init_181 rfl ?_
  refine X_le (mO_text (Ov := [(14, aR G 4 4 [51, 53, 55, 57] 0), (6, aR G 3 6 [27, 31, 35, 39, 43, 47] 0), (2, aR G 2 5 [18, 20, 22, 24, 26] 5), (1, aR G 2 5 [17, 19, 21, 23, 25] 5), (0, .inl (.inr (0, [.ref (xg G 1), .ref (xg G 2), .ref (xg G 3), .ref (xg G 4), .ref (xg G 5), .ref (xg G 6), .ref (xg G 7), .ref (xg G 11), .ref (xg G 14), .ref (xg G 15), .int 0, .int 0, .int 0, .int (-1), .int 0])))]) rfl rfl rfl rfl rfl rfl rfl rfl rfl rfl rfl) ?_
  refine O_aast (N := 6) (rs := [27, 31, 35, 39, 43, 47]) (i' := 0) (v := 27) (ci := 2) (Ov' := [(14, aR G 4 4 [51, 53, 55, 57] 0), (6, aR G 3 6 [27, 31, 35, 39, 43, 47] 1), (2, aR G 2 5 [18, 20, 22, 24, 26] 5), (1, aR G 2 5 [17, 19, 21, 23, 25] 5), (0, .inl (.inr (0, [.ref (xg G 1), .ref (xg G 2), .ref (xg G 3), .ref (xg G 4), .ref (xg G 5), .ref (xg G 6), .ref (xg G 7), .ref (xg G 11), .ref (xg G 14), .ref (xg G 15), .int 0, .int 0, .int 0, .int (-1), .int 0])))]) rfl rfl rfl rfl (mO_b rfl) rfl (vp_in_nI (show 0 < 6 by decide) (by decide)) rfl d_X_init_184 ?_
  refine X_iinc d_X_init_185 rfl (v := 1) (by decide) (by decide) [1, 0] (L' := [(0, .ref (xg G 0)), (1, .int 1)]) rfl ?_
  refine X_goto (tgt := 166) d_X_init_188 (by decide) ?_
  refine X_iload_n d_X_init_166 rfl rfl ?_
  refine X_bipush (v := 6) d_X_init_167 rfl ?_
  refine X_icmp_ge (tgt := 191) d_X_init_169 (by decide) (fun z => absurd z (by decide)) (fun _ => ?_)
  refine X_aload_n d_X_init_172 rfl rfl ?_
  refine X_getfield 5 fg_X_32 (mO_g rfl) rfl d_X_init_173 ?_
  refine X_iload_n d_X_init_176 rfl rfl ?_
  refine O_newO (ci := 2) (fs := [.null, .null, .null, .int 0, .int 0]) t_Text t_Text_ok rfl i_Text cl_X_30 is_Text in_Text (fun j hj => by match j, hj with | 0, _ => rfl | 1, _ => rfl | 2, _ => rfl | 3, _ => rfl | 4, _ => rfl) (Nat.le_of_ble_eq_true rfl) (Nat.le_of_ble_eq_true rfl) d_X_init_177 ?_
  refine X_dup d_X_init_180 rfl ?_
  refine X_callIN (rest := [.ref (xg G 31), .int 1, .ref (xg G 6)]) (c_Text_init l G (d := d - 1) (by omega) 32 31 _ (by decide) (mO_g rfl)) lk_Text_init mn_X_36 rfl (Nat.le_of_ble_eq_true rfl) (xRok (d' := d - 1) (by omega) (by decide)) ⟨(Nat.le_of_ble_eq_true rfl), (Nat.le_of_ble_eq_true rfl)⟩ d_X_init_181 rfl ?_
  refine X_le (mO_text (Ov := [(14, aR G 4 4 [51, 53, 55, 57] 0), (6, aR G 3 6 [27, 31, 35, 39, 43, 47] 1), (2, aR G 2 5 [18, 20, 22, 24, 26] 5), (1, aR G 2 5 [17, 19, 21, 23, 25] 5), (0, .inl (.inr (0, [.ref (xg G 1), .ref (xg G 2), .ref (xg G 3), .ref (xg G 4), .ref (xg G 5), .ref (xg G 6), .ref (xg G 7), .ref (xg G 11), .ref (xg G 14), .ref (xg G 15), .int 0, .int 0, .int 0, .int (-1), .int 0])))]) rfl rfl rfl rfl rfl rfl rfl rfl rfl rfl rfl) ?_
  refine O_aast (N := 6) (rs := [27, 31, 35, 39, 43, 47]) (i' := 1) (v := 31) (ci := 2) (Ov' := [(14, aR G 4 4 [51, 53, 55, 57] 0), (6, aR G 3 6 [27, 31, 35, 39, 43, 47] 2), (2, aR G 2 5 [18, 20, 22, 24, 26] 5), (1, aR G 2 5 [17, 19, 21, 23, 25] 5), (0, .inl (.inr (0, [.ref (xg G 1), .ref (xg G 2), .ref (xg G 3), .ref (xg G 4), .ref (xg G 5), .ref (xg G 6), .ref (xg G 7), .ref (xg G 11), .ref (xg G 14), .ref (xg G 15), .int 0, .int 0, .int 0, .int (-1), .int 0])))]) rfl rfl rfl rfl (mO_b rfl) rfl (vp_in_nI (show 1 < 6 by decide) (by decide)) rfl d_X_init_184 ?_
  refine X_iinc d_X_init_185 rfl (v := 2) (by decide) (by decide) [1, 0] (L' := [(0, .ref (xg G 0)), (1, .int 2)]) rfl ?_
  refine X_goto (tgt := 166) d_X_init_188 (by decide) ?_
  refine X_iload_n d_X_init_166 rfl rfl ?_
  refine X_bipush (v := 6) d_X_init_167 rfl ?_
  refine X_icmp_ge (tgt := 191) d_X_init_169 (by decide) (fun z => absurd z (by decide)) (fun _ => ?_)
  refine X_aload_n d_X_init_172 rfl rfl ?_
  refine X_getfield 5 fg_X_32 (mO_g rfl) rfl d_X_init_173 ?_
  refine X_iload_n d_X_init_176 rfl rfl ?_
  refine O_newO (ci := 2) (fs := [.null, .null, .null, .int 0, .int 0]) t_Text t_Text_ok rfl i_Text cl_X_30 is_Text in_Text (fun j hj => by match j, hj with | 0, _ => rfl | 1, _ => rfl | 2, _ => rfl | 3, _ => rfl | 4, _ => rfl) (Nat.le_of_ble_eq_true rfl) (Nat.le_of_ble_eq_true rfl) d_X_init_177 ?_
  refine X_dup d_X_init_180 rfl ?_
  refine X_callIN (rest := [.ref (xg G 35), .int 2, .ref (xg G 6)]) (c_Text_init l G (d := d - 1) (by omega) 36 35 _ (by decide) (mO_g rfl)) lk_Text_init mn_X_36 rfl (Nat.le_of_ble_eq_true rfl) (xRok (d' := d - 1) (by omega) (by decide)) ⟨(Nat.le_of_ble_eq_true rfl), (Nat.le_of_ble_eq_true rfl)⟩ d_X_init_181 rfl ?_
  refine X_le (mO_text (Ov := [(14, aR G 4 4 [51, 53, 55, 57] 0), (6, aR G 3 6 [27, 31, 35, 39, 43, 47] 2), (2, aR G 2 5 [18, 20, 22, 24, 26] 5), (1, aR G 2 5 [17, 19, 21, 23, 25] 5), (0, .inl (.inr (0, [.ref (xg G 1), .ref (xg G 2), .ref (xg G 3), .ref (xg G 4), .ref (xg G 5), .ref (xg G 6), .ref (xg G 7), .ref (xg G 11), .ref (xg G 14), .ref (xg G 15), .int 0, .int 0, .int 0, .int (-1), .int 0])))]) rfl rfl rfl rfl rfl rfl rfl rfl rfl rfl rfl) ?_
  refine O_aast (N := 6) (rs := [27, 31, 35, 39, 43, 47]) (i' := 2) (v := 35) (ci := 2) (Ov' := [(14, aR G 4 4 [51, 53, 55, 57] 0), (6, aR G 3 6 [27, 31, 35, 39, 43, 47] 3), (2, aR G 2 5 [18, 20, 22, 24, 26] 5), (1, aR G 2 5 [17, 19, 21, 23, 25] 5), (0, .inl (.inr (0, [.ref (xg G 1), .ref (xg G 2), .ref (xg G 3), .ref (xg G 4), .ref (xg G 5), .ref (xg G 6), .ref (xg G 7), .ref (xg G 11), .ref (xg G 14), .ref (xg G 15), .int 0, .int 0, .int 0, .int (-1), .int 0])))]) rfl rfl rfl rfl (mO_b rfl) rfl (vp_in_nI (show 2 < 6 by decide) (by decide)) rfl d_X_init_184 ?_
  refine X_iinc d_X_init_185 rfl (v := 3) (by decide) (by decide) [1, 0] (L' := [(0, .ref (xg G 0)), (1, .int 3)]) rfl ?_
  refine X_goto (tgt := 166) d_X_init_188 (by decide) ?_
  refine X_iload_n d_X_init_166 rfl rfl ?_
  refine X_bipush (v := 6) d_X_init_167 rfl ?_
  refine X_icmp_ge (tgt := 191) d_X_init_169 (by decide) (fun z => absurd z (by decide)) (fun _ => ?_)
  refine X_aload_n d_X_init_172 rfl rfl ?_
  refine X_getfield 5 fg_X_32 (mO_g rfl) rfl d_X_init_173 ?_
  refine X_iload_n d_X_init_176 rfl rfl ?_
  refine O_newO (ci := 2) (fs := [.null, .null, .null, .int 0, .int 0]) t_Text t_Text_ok rfl i_Text cl_X_30 is_Text in_Text (fun j hj => by match j, hj with | 0, _ => rfl | 1, _ => rfl | 2, _ => rfl | 3, _ => rfl | 4, _ => rfl) (Nat.le_of_ble_eq_true rfl) (Nat.le_of_ble_eq_true rfl) d_X_init_177 ?_
  refine X_dup d_X_init_180 rfl ?_
  refine X_callIN (rest := [.ref (xg G 39), .int 3, .ref (xg G 6)]) (c_Text_init l G (d := d - 1) (by omega) 40 39 _ (by decide) (mO_g rfl)) lk_Text_init mn_X_36 rfl (Nat.le_of_ble_eq_true rfl) (xRok (d' := d - 1) (by omega) (by decide)) ⟨(Nat.le_of_ble_eq_true rfl), (Nat.le_of_ble_eq_true rfl)⟩ d_X_init_181 rfl ?_
  refine X_le (mO_text (Ov := [(14, aR G 4 4 [51, 53, 55, 57] 0), (6, aR G 3 6 [27, 31, 35, 39, 43, 47] 3), (2, aR G 2 5 [18, 20, 22, 24, 26] 5), (1, aR G 2 5 [17, 19, 21, 23, 25] 5), (0, .inl (.inr (0, [.ref (xg G 1), .ref (xg G 2), .ref (xg G 3), .ref (xg G 4), .ref (xg G 5), .ref (xg G 6), .ref (xg G 7), .ref (xg G 11), .ref (xg G 14), .ref (xg G 15), .int 0, .int 0, .int 0, .int (-1), .int 0])))]) rfl rfl rfl rfl rfl rfl rfl rfl rfl rfl rfl) ?_
  refine O_aast (N := 6) (rs := [27, 31, 35, 39, 43, 47]) (i' := 3) (v := 39) (ci := 2) (Ov' := [(14, aR G 4 4 [51, 53, 55, 57] 0), (6, aR G 3 6 [27, 31, 35, 39, 43, 47] 4), (2, aR G 2 5 [18, 20, 22, 24, 26] 5), (1, aR G 2 5 [17, 19, 21, 23, 25] 5), (0, .inl (.inr (0, [.ref (xg G 1), .ref (xg G 2), .ref (xg G 3), .ref (xg G 4), .ref (xg G 5), .ref (xg G 6), .ref (xg G 7), .ref (xg G 11), .ref (xg G 14), .ref (xg G 15), .int 0, .int 0, .int 0, .int (-1), .int 0])))]) rfl rfl rfl rfl (mO_b rfl) rfl (vp_in_nI (show 3 < 6 by decide) (by decide)) rfl d_X_init_184 ?_
  refine X_iinc d_X_init_185 rfl (v := 4) (by decide) (by decide) [1, 0] (L' := [(0, .ref (xg G 0)), (1, .int 4)]) rfl ?_
  refine X_goto (tgt := 166) d_X_init_188 (by decide) ?_
  refine X_iload_n d_X_init_166 rfl rfl ?_
  refine X_bipush (v := 6) d_X_init_167 rfl ?_
  refine X_icmp_ge (tgt := 191) d_X_init_169 (by decide) (fun z => absurd z (by decide)) (fun _ => ?_)
  refine X_aload_n d_X_init_172 rfl rfl ?_
  refine X_getfield 5 fg_X_32 (mO_g rfl) rfl d_X_init_173 ?_
  refine X_iload_n d_X_init_176 rfl rfl ?_
  refine O_newO (ci := 2) (fs := [.null, .null, .null, .int 0, .int 0]) t_Text t_Text_ok rfl i_Text cl_X_30 is_Text in_Text (fun j hj => by match j, hj with | 0, _ => rfl | 1, _ => rfl | 2, _ => rfl | 3, _ => rfl | 4, _ => rfl) (Nat.le_of_ble_eq_true rfl) (Nat.le_of_ble_eq_true rfl) d_X_init_177 ?_
  refine X_dup d_X_init_180 rfl ?_
  refine X_callIN (rest := [.ref (xg G 43), .int 4, .ref (xg G 6)]) (c_Text_init l G (d := d - 1) (by omega) 44 43 _ (by decide) (mO_g rfl)) lk_Text_init mn_X_36 rfl (Nat.le_of_ble_eq_true rfl) (xRok (d' := d - 1) (by omega) (by decide)) ⟨(Nat.le_of_ble_eq_true rfl), (Nat.le_of_ble_eq_true rfl)⟩ d_X_init_181 rfl ?_
  refine X_le (mO_text (Ov := [(14, aR G 4 4 [51, 53, 55, 57] 0), (6, aR G 3 6 [27, 31, 35, 39, 43, 47] 4), (2, aR G 2 5 [18, 20, 22, 24, 26] 5), (1, aR G 2 5 [17, 19, 21, 23, 25] 5), (0, .inl (.inr (0, [.ref (xg G 1), .ref (xg G 2), .ref (xg G 3), .ref (xg G 4), .ref (xg G 5), .ref (xg G 6), .ref (xg G 7), .ref (xg G 11), .ref (xg G 14), .ref (xg G 15), .int 0, .int 0, .int 0, .int (-1), .int 0])))]) rfl rfl rfl rfl rfl rfl rfl rfl rfl rfl rfl) ?_
  refine O_aast (N := 6) (rs := [27, 31, 35, 39, 43, 47]) (i' := 4) (v := 43) (ci := 2) (Ov' := [(14, aR G 4 4 [51, 53, 55, 57] 0), (6, aR G 3 6 [27, 31, 35, 39, 43, 47] 5), (2, aR G 2 5 [18, 20, 22, 24, 26] 5), (1, aR G 2 5 [17, 19, 21, 23, 25] 5), (0, .inl (.inr (0, [.ref (xg G 1), .ref (xg G 2), .ref (xg G 3), .ref (xg G 4), .ref (xg G 5), .ref (xg G 6), .ref (xg G 7), .ref (xg G 11), .ref (xg G 14), .ref (xg G 15), .int 0, .int 0, .int 0, .int (-1), .int 0])))]) rfl rfl rfl rfl (mO_b rfl) rfl (vp_in_nI (show 4 < 6 by decide) (by decide)) rfl d_X_init_184 ?_
  refine X_iinc d_X_init_185 rfl (v := 5) (by decide) (by decide) [1, 0] (L' := [(0, .ref (xg G 0)), (1, .int 5)]) rfl ?_
  refine X_goto (tgt := 166) d_X_init_188 (by decide) ?_
  refine X_iload_n d_X_init_166 rfl rfl ?_
  refine X_bipush (v := 6) d_X_init_167 rfl ?_
  refine X_icmp_ge (tgt := 191) d_X_init_169 (by decide) (fun z => absurd z (by decide)) (fun _ => ?_)
  refine X_aload_n d_X_init_172 rfl rfl ?_
  refine X_getfield 5 fg_X_32 (mO_g rfl) rfl d_X_init_173 ?_
  refine X_iload_n d_X_init_176 rfl rfl ?_
  refine O_newO (ci := 2) (fs := [.null, .null, .null, .int 0, .int 0]) t_Text t_Text_ok rfl i_Text cl_X_30 is_Text in_Text (fun j hj => by match j, hj with | 0, _ => rfl | 1, _ => rfl | 2, _ => rfl | 3, _ => rfl | 4, _ => rfl) (Nat.le_of_ble_eq_true rfl) (Nat.le_of_ble_eq_true rfl) d_X_init_177 ?_
  refine X_dup d_X_init_180 rfl ?_
  refine X_callIN (rest := [.ref (xg G 47), .int 5, .ref (xg G 6)]) (c_Text_init l G (d := d - 1) (by omega) 48 47 _ (by decide) (mO_g rfl)) lk_Text_init mn_X_36 rfl (Nat.le_of_ble_eq_true rfl) (xRok (d' := d - 1) (by omega) (by decide)) ⟨(Nat.le_of_ble_eq_true rfl), (Nat.le_of_ble_eq_true rfl)⟩ d_X_init_181 rfl ?_
  refine X_le (mO_text (Ov := [(14, aR G 4 4 [51, 53, 55, 57] 0), (6, aR G 3 6 [27, 31, 35, 39, 43, 47] 5), (2, aR G 2 5 [18, 20, 22, 24, 26] 5), (1, aR G 2 5 [17, 19, 21, 23, 25] 5), (0, .inl (.inr (0, [.ref (xg G 1), .ref (xg G 2), .ref (xg G 3), .ref (xg G 4), .ref (xg G 5), .ref (xg G 6), .ref (xg G 7), .ref (xg G 11), .ref (xg G 14), .ref (xg G 15), .int 0, .int 0, .int 0, .int (-1), .int 0])))]) rfl rfl rfl rfl rfl rfl rfl rfl rfl rfl rfl) ?_
  refine O_aast (N := 6) (rs := [27, 31, 35, 39, 43, 47]) (i' := 5) (v := 47) (ci := 2) (Ov' := [(14, aR G 4 4 [51, 53, 55, 57] 0), (6, aR G 3 6 [27, 31, 35, 39, 43, 47] 6), (2, aR G 2 5 [18, 20, 22, 24, 26] 5), (1, aR G 2 5 [17, 19, 21, 23, 25] 5), (0, .inl (.inr (0, [.ref (xg G 1), .ref (xg G 2), .ref (xg G 3), .ref (xg G 4), .ref (xg G 5), .ref (xg G 6), .ref (xg G 7), .ref (xg G 11), .ref (xg G 14), .ref (xg G 15), .int 0, .int 0, .int 0, .int (-1), .int 0])))]) rfl rfl rfl rfl (mO_b rfl) rfl (vp_in_nI (show 5 < 6 by decide) (by decide)) rfl d_X_init_184 ?_
  refine X_iinc d_X_init_185 rfl (v := 6) (by decide) (by decide) [1, 0] (L' := [(0, .ref (xg G 0)), (1, .int 6)]) rfl ?_
  refine X_goto (tgt := 166) d_X_init_188 (by decide) ?_
  refine X_iload_n d_X_init_166 rfl rfl ?_
  refine X_bipush (v := 6) d_X_init_167 rfl ?_
  refine X_icmp_ge (tgt := 191) d_X_init_169 (by decide) (fun _ => ?_) (fun z => absurd (by decide) z)
  refine X_iconst (v := 0) d_X_init_191 rfl ?_
  refine X_istore_n d_X_init_192 rfl (by decide) [1, 0] (L' := [(0, .ref (xg G 0)), (1, .int 0)]) rfl ?_
  refine X_iload_n d_X_init_193 rfl rfl ?_
  refine X_iconst (v := 4) d_X_init_194 rfl ?_
  refine X_icmp_ge (tgt := 217) d_X_init_195 (by decide) (fun z => absurd z (by decide)) (fun _ => ?_)
  refine X_aload_n d_X_init_198 rfl rfl ?_
  refine X_getfield 8 fg_X_50 (mO_g rfl) rfl d_X_init_199 ?_
  refine X_iload_n d_X_init_202 rfl rfl ?_
  refine O_newO (ci := 4) (fs := [.null, .int 0, .int 0]) t_Sheet t_Sheet_ok rfl i_Sheet cl_X_48 is_Sheet in_Sheet (fun j hj => by match j, hj with | 0, _ => rfl | 1, _ => rfl | 2, _ => rfl) (Nat.le_of_ble_eq_true rfl) (Nat.le_of_ble_eq_true rfl) d_X_init_203 ?_
  refine X_dup d_X_init_206 rfl ?_
  refine X_callIN (rest := [.ref (xg G 51), .int 0, .ref (xg G 14)]) (c_Sheet_init l G (d := d - 1) (by omega) 52 51 _ (by decide) (mO_g rfl)) lk_Sheet_init mn_X_54 rfl (Nat.le_of_ble_eq_true rfl) (xRok (d' := d - 1) (by omega) (by decide)) ⟨(Nat.le_of_ble_eq_true rfl), (Nat.le_of_ble_eq_true rfl)⟩ d_X_init_207 rfl ?_
  refine X_le (xle_of (mO_sheet (Ov := [(14, aR G 4 4 [51, 53, 55, 57] 0), (6, aR G 3 6 [27, 31, 35, 39, 43, 47] 6), (2, aR G 2 5 [18, 20, 22, 24, 26] 5), (1, aR G 2 5 [17, 19, 21, 23, 25] 5), (0, .inl (.inr (0, [.ref (xg G 1), .ref (xg G 2), .ref (xg G 3), .ref (xg G 4), .ref (xg G 5), .ref (xg G 6), .ref (xg G 7), .ref (xg G 11), .ref (xg G 14), .ref (xg G 15), .int 0, .int 0, .int 0, .int (-1), .int 0])))]) rfl rfl rfl rfl rfl rfl)) ?_
  refine O_aast (N := 4) (rs := [51, 53, 55, 57]) (i' := 0) (v := 51) (ci := 4) (Ov' := [(14, aR G 4 4 [51, 53, 55, 57] 1), (6, aR G 3 6 [27, 31, 35, 39, 43, 47] 6), (2, aR G 2 5 [18, 20, 22, 24, 26] 5), (1, aR G 2 5 [17, 19, 21, 23, 25] 5), (0, .inl (.inr (0, [.ref (xg G 1), .ref (xg G 2), .ref (xg G 3), .ref (xg G 4), .ref (xg G 5), .ref (xg G 6), .ref (xg G 7), .ref (xg G 11), .ref (xg G 14), .ref (xg G 15), .int 0, .int 0, .int 0, .int (-1), .int 0])))]) rfl rfl rfl rfl (mO_b rfl) rfl (vp_in_nI (show 0 < 4 by decide) (by decide)) rfl d_X_init_210 ?_
  refine X_iinc d_X_init_211 rfl (v := 1) (by decide) (by decide) [1, 0] (L' := [(0, .ref (xg G 0)), (1, .int 1)]) rfl ?_
  refine X_goto (tgt := 193) d_X_init_214 (by decide) ?_
  refine X_iload_n d_X_init_193 rfl rfl ?_
  refine X_iconst (v := 4) d_X_init_194 rfl ?_
  refine X_icmp_ge (tgt := 217) d_X_init_195 (by decide) (fun z => absurd z (by decide)) (fun _ => ?_)
  refine X_aload_n d_X_init_198 rfl rfl ?_
  refine X_getfield 8 fg_X_50 (mO_g rfl) rfl d_X_init_199 ?_
  refine X_iload_n d_X_init_202 rfl rfl ?_
  refine O_newO (ci := 4) (fs := [.null, .int 0, .int 0]) t_Sheet t_Sheet_ok rfl i_Sheet cl_X_48 is_Sheet in_Sheet (fun j hj => by match j, hj with | 0, _ => rfl | 1, _ => rfl | 2, _ => rfl) (Nat.le_of_ble_eq_true rfl) (Nat.le_of_ble_eq_true rfl) d_X_init_203 ?_
  refine X_dup d_X_init_206 rfl ?_
  refine X_callIN (rest := [.ref (xg G 53), .int 1, .ref (xg G 14)]) (c_Sheet_init l G (d := d - 1) (by omega) 54 53 _ (by decide) (mO_g rfl)) lk_Sheet_init mn_X_54 rfl (Nat.le_of_ble_eq_true rfl) (xRok (d' := d - 1) (by omega) (by decide)) ⟨(Nat.le_of_ble_eq_true rfl), (Nat.le_of_ble_eq_true rfl)⟩ d_X_init_207 rfl ?_
  refine X_le (xle_of (mO_sheet (Ov := [(14, aR G 4 4 [51, 53, 55, 57] 1), (6, aR G 3 6 [27, 31, 35, 39, 43, 47] 6), (2, aR G 2 5 [18, 20, 22, 24, 26] 5), (1, aR G 2 5 [17, 19, 21, 23, 25] 5), (0, .inl (.inr (0, [.ref (xg G 1), .ref (xg G 2), .ref (xg G 3), .ref (xg G 4), .ref (xg G 5), .ref (xg G 6), .ref (xg G 7), .ref (xg G 11), .ref (xg G 14), .ref (xg G 15), .int 0, .int 0, .int 0, .int (-1), .int 0])))]) rfl rfl rfl rfl rfl rfl)) ?_
  refine O_aast (N := 4) (rs := [51, 53, 55, 57]) (i' := 1) (v := 53) (ci := 4) (Ov' := [(14, aR G 4 4 [51, 53, 55, 57] 2), (6, aR G 3 6 [27, 31, 35, 39, 43, 47] 6), (2, aR G 2 5 [18, 20, 22, 24, 26] 5), (1, aR G 2 5 [17, 19, 21, 23, 25] 5), (0, .inl (.inr (0, [.ref (xg G 1), .ref (xg G 2), .ref (xg G 3), .ref (xg G 4), .ref (xg G 5), .ref (xg G 6), .ref (xg G 7), .ref (xg G 11), .ref (xg G 14), .ref (xg G 15), .int 0, .int 0, .int 0, .int (-1), .int 0])))]) rfl rfl rfl rfl (mO_b rfl) rfl (vp_in_nI (show 1 < 4 by decide) (by decide)) rfl d_X_init_210 ?_
  refine X_iinc d_X_init_211 rfl (v := 2) (by decide) (by decide) [1, 0] (L' := [(0, .ref (xg G 0)), (1, .int 2)]) rfl ?_
  refine X_goto (tgt := 193) d_X_init_214 (by decide) ?_
  refine X_iload_n d_X_init_193 rfl rfl ?_
  refine X_iconst (v := 4) d_X_init_194 rfl ?_
  refine X_icmp_ge (tgt := 217) d_X_init_195 (by decide) (fun z => absurd z (by decide)) (fun _ => ?_)
  refine X_aload_n d_X_init_198 rfl rfl ?_
  refine X_getfield 8 fg_X_50 (mO_g rfl) rfl d_X_init_199 ?_
  refine X_iload_n d_X_init_202 rfl rfl ?_
  refine O_newO (ci := 4) (fs := [.null, .int 0, .int 0]) t_Sheet t_Sheet_ok rfl i_Sheet cl_X_48 is_Sheet in_Sheet (fun j hj => by match j, hj with | 0, _ => rfl | 1, _ => rfl | 2, _ => rfl) (Nat.le_of_ble_eq_true rfl) (Nat.le_of_ble_eq_true rfl) d_X_init_203 ?_
  refine X_dup d_X_init_206 rfl ?_
  refine X_callIN (rest := [.ref (xg G 55), .int 2, .ref (xg G 14)]) (c_Sheet_init l G (d := d - 1) (by omega) 56 55 _ (by decide) (mO_g rfl)) lk_Sheet_init mn_X_54 rfl (Nat.le_of_ble_eq_true rfl) (xRok (d' := d - 1) (by omega) (by decide)) ⟨(Nat.le_of_ble_eq_true rfl), (Nat.le_of_ble_eq_true rfl)⟩ d_X_init_207 rfl ?_
  refine X_le (xle_of (mO_sheet (Ov := [(14, aR G 4 4 [51, 53, 55, 57] 2), (6, aR G 3 6 [27, 31, 35, 39, 43, 47] 6), (2, aR G 2 5 [18, 20, 22, 24, 26] 5), (1, aR G 2 5 [17, 19, 21, 23, 25] 5), (0, .inl (.inr (0, [.ref (xg G 1), .ref (xg G 2), .ref (xg G 3), .ref (xg G 4), .ref (xg G 5), .ref (xg G 6), .ref (xg G 7), .ref (xg G 11), .ref (xg G 14), .ref (xg G 15), .int 0, .int 0, .int 0, .int (-1), .int 0])))]) rfl rfl rfl rfl rfl rfl)) ?_
  refine O_aast (N := 4) (rs := [51, 53, 55, 57]) (i' := 2) (v := 55) (ci := 4) (Ov' := [(14, aR G 4 4 [51, 53, 55, 57] 3), (6, aR G 3 6 [27, 31, 35, 39, 43, 47] 6), (2, aR G 2 5 [18, 20, 22, 24, 26] 5), (1, aR G 2 5 [17, 19, 21, 23, 25] 5), (0, .inl (.inr (0, [.ref (xg G 1), .ref (xg G 2), .ref (xg G 3), .ref (xg G 4), .ref (xg G 5), .ref (xg G 6), .ref (xg G 7), .ref (xg G 11), .ref (xg G 14), .ref (xg G 15), .int 0, .int 0, .int 0, .int (-1), .int 0])))]) rfl rfl rfl rfl (mO_b rfl) rfl (vp_in_nI (show 2 < 4 by decide) (by decide)) rfl d_X_init_210 ?_
  refine X_iinc d_X_init_211 rfl (v := 3) (by decide) (by decide) [1, 0] (L' := [(0, .ref (xg G 0)), (1, .int 3)]) rfl ?_
  refine X_goto (tgt := 193) d_X_init_214 (by decide) ?_
  refine X_iload_n d_X_init_193 rfl rfl ?_
  refine X_iconst (v := 4) d_X_init_194 rfl ?_
  refine X_icmp_ge (tgt := 217) d_X_init_195 (by decide) (fun z => absurd z (by decide)) (fun _ => ?_)
  refine X_aload_n d_X_init_198 rfl rfl ?_
  refine X_getfield 8 fg_X_50 (mO_g rfl) rfl d_X_init_199 ?_
  refine X_iload_n d_X_init_202 rfl rfl ?_
  refine O_newO (ci := 4) (fs := [.null, .int 0, .int 0]) t_Sheet t_Sheet_ok rfl i_Sheet cl_X_48 is_Sheet in_Sheet (fun j hj => by match j, hj with | 0, _ => rfl | 1, _ => rfl | 2, _ => rfl) (Nat.le_of_ble_eq_true rfl) (Nat.le_of_ble_eq_true rfl) d_X_init_203 ?_
  refine X_dup d_X_init_206 rfl ?_
  refine X_callIN (rest := [.ref (xg G 57), .int 3, .ref (xg G 14)]) (c_Sheet_init l G (d := d - 1) (by omega) 58 57 _ (by decide) (mO_g rfl)) lk_Sheet_init mn_X_54 rfl (Nat.le_of_ble_eq_true rfl) (xRok (d' := d - 1) (by omega) (by decide)) ⟨(Nat.le_of_ble_eq_true rfl), (Nat.le_of_ble_eq_true rfl)⟩ d_X_init_207 rfl ?_
  refine X_le (xle_of (mO_sheet (Ov := [(14, aR G 4 4 [51, 53, 55, 57] 3), (6, aR G 3 6 [27, 31, 35, 39, 43, 47] 6), (2, aR G 2 5 [18, 20, 22, 24, 26] 5), (1, aR G 2 5 [17, 19, 21, 23, 25] 5), (0, .inl (.inr (0, [.ref (xg G 1), .ref (xg G 2), .ref (xg G 3), .ref (xg G 4), .ref (xg G 5), .ref (xg G 6), .ref (xg G 7), .ref (xg G 11), .ref (xg G 14), .ref (xg G 15), .int 0, .int 0, .int 0, .int (-1), .int 0])))]) rfl rfl rfl rfl rfl rfl)) ?_
  refine O_aast (N := 4) (rs := [51, 53, 55, 57]) (i' := 3) (v := 57) (ci := 4) (Ov' := [(14, aR G 4 4 [51, 53, 55, 57] 4), (6, aR G 3 6 [27, 31, 35, 39, 43, 47] 6), (2, aR G 2 5 [18, 20, 22, 24, 26] 5), (1, aR G 2 5 [17, 19, 21, 23, 25] 5), (0, .inl (.inr (0, [.ref (xg G 1), .ref (xg G 2), .ref (xg G 3), .ref (xg G 4), .ref (xg G 5), .ref (xg G 6), .ref (xg G 7), .ref (xg G 11), .ref (xg G 14), .ref (xg G 15), .int 0, .int 0, .int 0, .int (-1), .int 0])))]) rfl rfl rfl rfl (mO_b rfl) rfl (vp_in_nI (show 3 < 4 by decide) (by decide)) rfl d_X_init_210 ?_
  refine X_iinc d_X_init_211 rfl (v := 4) (by decide) (by decide) [1, 0] (L' := [(0, .ref (xg G 0)), (1, .int 4)]) rfl ?_
  refine X_goto (tgt := 193) d_X_init_214 (by decide) ?_
  refine X_iload_n d_X_init_193 rfl rfl ?_
  refine X_iconst (v := 4) d_X_init_194 rfl ?_
  refine X_icmp_ge (tgt := 217) d_X_init_195 (by decide) (fun _ => ?_) (fun z => absurd (by decide) z)
  have e : mO G 59 iZ [(14, aR G 4 4 [51, 53, 55, 57] 4), (6, aR G 3 6 [27, 31, 35, 39, 43, 47] 6), (2, aR G 2 5 [18, 20, 22, 24, 26] 5), (1, aR G 2 5 [17, 19, 21, 23, 25] 5), (0, .inl (.inr (0, [.ref (xg G 1), .ref (xg G 2), .ref (xg G 3), .ref (xg G 4), .ref (xg G 5), .ref (xg G 6), .ref (xg G 7), .ref (xg G 11), .ref (xg G 14), .ref (xg G 15), .int 0, .int 0, .int 0, .int (-1), .int 0])))] = xm G xYc iZ := by
    refine (mO_close (G := G) (j := 59) (I := iZ) (a := 14) (sh := .inr (.inr (.inl (4, [51, 53, 55, 57])))) (by rfl) (by decide) (by rfl) (by rfl)).trans ?_
    refine (mO_close (G := G) (j := 59) (I := iZ) (a := 6) (sh := .inr (.inr (.inl (3, [27, 31, 35, 39, 43, 47])))) (by rfl) (by decide) (by rfl) (by rfl)).trans ?_
    refine (mO_close (G := G) (j := 59) (I := iZ) (a := 2) (sh := .inr (.inr (.inl (2, [18, 20, 22, 24, 26])))) (by rfl) (by decide) (by rfl) (by rfl)).trans ?_
    refine (mO_close (G := G) (j := 59) (I := iZ) (a := 1) (sh := .inr (.inr (.inl (2, [17, 19, 21, 23, 25])))) (by rfl) (by decide) (by rfl) (by rfl)).trans ?_
    refine (mO_close (G := G) (j := 59) (I := iZ) (a := 0) (sh := sX) (by rfl) (by decide) (by rfl) (by rfl)).trans ?_
    rw [mO, xYn_59]
  exact e ▸ kk
