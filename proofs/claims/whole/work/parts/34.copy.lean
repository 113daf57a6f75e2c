theorem ay_ln : Cond.methodLink "RoundAndRound" 310 arraycopyName ∈ xT := xT_3 232 rfl rfl
theorem ay_nat : Cond.native arraycopyName ∈ xT := xT_3 234 rfl rfl
theorem ay_st : Cond.static arraycopyName ∈ xT := xT_3 233 rfl rfl
theorem ay_in : Cond.initialized "java/lang/System" ∈ xT := xT_1 13 rfl rfl
theorem nn_int {z : Int32} (h : ¬ z < 0) : z.toInt = (z.toNatClampNeg : Int) := by
  obtain ⟨j, hj, rfl⟩ := nI_of h
  rw [nI_toInt hj, nI_cl hj]
section XCOPY
variable {l : Launch} {G : xG} {R : Room} {y : MethodName} {cc : ByteArray} {ml : Nat} {rt : Option FieldType} {K : Array Value → State → Prop} {Z : List Frame → Array Value → State → State → Prop} {n : Nat} {M : xM} {kc sl pc : Nat} {L : List (Nat × Value)} {st : List Value}
theorem X_copy {a0 a N0 N1 idx : Nat} {f g : Nat → Int32} {sp dp q : Int32} (hM0 : M a0 = some (.inl (.inl (0, N0, .inl f)))) (hM1 : M a = some (.inl (.inl (0, N1, .inl g)))) (h1 : ¬ sp < 0) (h2 : ¬ dp < 0) (h3 : ¬ q < 0) (h4 : sp.toNatClampNeg + q.toNatClampNeg ≤ N0) (h5 : dp.toNatClampNeg + q.toNatClampNeg ≤ N1) (hln : Cond.methodLink y.cls idx arraycopyName ∈ xT) (hfr : 1 ≤ R.frames ∧ (st.map fun v => v.category).sum + (nativeFrameWords "java/lang/System" "arraycopy" 5 + 11) ≤ R.locals) (hd : decode cc pc = .ok (.invokestatic idx, 3)) (kk : XW l G R y cc ml rt K Z n (xup M a (some (.inl (.inl (0, N1, .inl (va_cpy f g sp.toNatClampNeg dp.toNatClampNeg q.toNatClampNeg)))))) kc sl (pc + 3) L st) : XW l G R y cc ml rt K Z n M kc sl pc L (.int q :: .int dp :: .ref (xg G a) :: .int sp :: .ref (xg G a0) :: st) := by
  intro p e s m args below meth c H locs ls hc hH hS hL
  have hts := hc.2.2.2.2.2.2.2.1
  have hK := hc.2.2.2.2.2.2.2.2.1.1
  have c0 := xH_at hH hM0
  have c1 := xH_at hH hM1
  obtain ⟨-, k0, hk0, cm0, e0⟩ := (hK.2 0 _ rfl).1 N0 (fun j => .int (f j))
  obtain ⟨-, k1, hk1, cm1, e1⟩ := (hK.2 0 _ rfl).1 N1 (fun j => .int (g j))
  intro T hT X
  have hvals : ∀ vm', s.vm.Alike vm' → ∀ i, i < q.toNatClampNeg → fits .int ((vp_cell (G.2.1 0) (N0, .inl f)).slots.getD (sp.toNatClampNeg + i) .null) = true ∧ (T.setVm vm').takes cm1 ((vp_cell (G.2.1 0) (N0, .inl f)).slots.getD (sp.toNatClampNeg + i) .null) := by
    intro vm' _ i hi
    have e : (vp_cell (G.2.1 0) (N0, .inl f)).slots.getD (sp.toNatClampNeg + i) .null = .int (f (sp.toNatClampNeg + i)) := by
      show (arrV _ N0 (fun j => .int (f j))).slots.getD _ _ = _
      rw [Array.getD_eq_getD_getElem?, arrV_read _ _ (show sp.toNatClampNeg + i < N0 by omega)]
      rfl
    rw [e]
    exact ⟨rfl, trivial⟩
  obtain ⟨vm', X1, step⟩ := X.arraycopy hc.1 hc.2.2.2.2.2.1 (hts _ hln) (hts _ ay_nat) (hts _ ay_st) (hts _ ay_in) (cs := vp_cell (G.2.1 0) (N0, .inl f)) (cd := vp_cell (G.2.1 0) (N1, .inl g)) (by rw [hT]; exact c0) (by rw [hT]; exact c1) (fun _ z => by cases z) (fun _ z => by cases z) (fun z => by cases z) (fun z => by cases z) hk0 hk1 e0 e1 rfl h1 h2 h3
    (by rw [nn_int h1, nn_int h3]; show ¬ _ > ((arrV _ N0 (fun j => .int (f j))).slots.size : Int); rw [arrV_size]; omega)
    (by rw [nn_int h2, nn_int h3]; show ¬ _ > ((arrV _ N1 (fun j => .int (g j))).slots.size : Int); rw [arrV_size]; omega)
    hvals (g := F0 m pc ls (.int q :: .int dp :: .ref (xg G a) :: .int sp :: .ref (xg G a0) :: st)) rfl (hL.1.trans hc.2.2.1.symm) (rest := st) rfl (by rw [hc.2.1]; exact hd) hfr.1 (by show 2 * 0 + _ + _ ≤ _; omega)
  have ec : copied (vp_cell (G.2.1 0) (N0, .inl f)) (vp_cell (G.2.1 0) (N1, .inl g)) sp dp q = vp_cell (G.2.1 0) (N1, .inl (va_cpy f g sp.toNatClampNeg dp.toNatClampNeg q.toNatClampNeg)) := va_copied (fun z => .int z) _ _ f g h4
  rw [ec] at X1 step
  have hlt : xg G a < H.size := (Array.getElem?_eq_some_iff.mp c1).1
  have oq : ∀ z : Nat, z ≠ xg G a → (H.setIfInBounds (xg G a) (vp_cell (G.2.1 0) (N1, .inl (va_cpy f g sp.toNatClampNeg dp.toNatClampNeg q.toNatClampNeg))))[z]? = H[z]? := fun z hz => by simp [Array.getElem?_setIfInBounds, Ne.symm hz]
  obtain ⟨t, b1, b2⟩ := kk p e s m args below meth c _ _ ls hc (xH_set hH hM1 (H1 := H.setIfInBounds (xg G a) (vp_cell (G.2.1 0) (N1, .inl (va_cpy f g sp.toNatClampNeg dp.toNatClampNeg q.toNatClampNeg)))) (by simp) oq (show (H.setIfInBounds (xg G a) _)[xg G a]? = some _ by simp [Array.getElem?_setIfInBounds, hlt])) ⟨by simp; exact hS.1, fun z g1 g2 => by
      rw [oq z (fun e => g2 (by rw [e]; exact xF_in G a))]
      exact hS.2.1 z g1 g2, fun z hz => by
      rcases List.mem_append.mp hz with h | h
      · exact hS.2.2 z h
      · obtain ⟨w, -, hw⟩ := List.mem_map.mp h
        rw [← hw]
        exact xF_in G a⟩ hL _ (by rw [← hT]; rfl) X1
  exact ⟨t, step t b1, b2⟩
end XCOPY
section XCOPYI
variable {l : Launch} {G : xG} {y : MethodName} {cc : ByteArray} {ml : Nat} {rt : Option FieldType} {K : Array Value → State → Prop} {Z : List Frame → Array Value → State → State → Prop} {n : Nat} {Y : xY} {I : xI} {kc sl pc : Nat} {L : List (Nat × Value)} {st : List Value}
theorem X_copyI {d a0 a N0 N1 idx : Nat} {sp dp q : Int32} (hY0 : Y a0 = some (.inr (.inl N0))) (hY1 : Y a = some (.inr (.inl N1))) (h1 : ¬ sp < 0) (h2 : ¬ dp < 0) (h3 : ¬ q < 0) (h4 : sp.toNatClampNeg + q.toNatClampNeg ≤ N0) (h5 : dp.toNatClampNeg + q.toNatClampNeg ≤ N1) (hln : Cond.methodLink y.cls idx arraycopyName ∈ xT) (hd1 : 1 ≤ d) (hst : (st.map fun v => v.category).sum ≤ 8) (hd : decode cc pc = .ok (.invokestatic idx, 3)) (kk : XW l G (xR d 0 0) y cc ml rt K Z n (xm G Y (xup I a (va_cpy (I a0) (I a) sp.toNatClampNeg dp.toNatClampNeg q.toNatClampNeg))) kc sl (pc + 3) L st) : XW l G (xR d 0 0) y cc ml rt K Z n (xm G Y I) kc sl pc L (.int q :: .int dp :: .ref (xg G a) :: .int sp :: .ref (xg G a0) :: st) := by
  have hn : nativeFrameWords "java/lang/System" "arraycopy" 5 = 7 := by decide
  refine X_copy (xm_arr hY0) (xm_arr hY1) h1 h2 h3 h4 h5 hln ⟨hd1, by rw [hn]; show _ ≤ 64 * d; omega⟩ hd ?_
  have e : xup (xm G Y I) a (some (.inl (.inl (0, N1, .inl (va_cpy (I a0) (I a) sp.toNatClampNeg dp.toNatClampNeg q.toNatClampNeg))))) = xm G Y (xup I a (va_cpy (I a0) (I a) sp.toNatClampNeg dp.toNatClampNeg q.toNatClampNeg)) := xm_up (sh := .inr (.inl N1)) hY1
  rw [e]
  exact kk
end XCOPYI
theorem shRow_cl {f : Nat → Int32} {i n : Int32} {z : Nat} (h : shRow f i n = true) (h2 : f 2 = nI z) (hz : z ≤ 40) : (¬ i < 0) ∧ (¬ n < 0) ∧ i.toNatClampNeg + n.toNatClampNeg ≤ 40 := by
  simp only [shRow, h2, Bool.and_eq_true, decide_eq_true_eq] at h
  obtain ⟨⟨⟨a1, a2⟩, a3⟩, a4⟩ := h
  obtain ⟨b, hb, rfl⟩ := nI_of (Int32.not_lt.mpr a1)
  obtain ⟨c, hc, rfl⟩ := nI_of (Int32.not_lt.mpr a3)
  have k1 : b ≤ z := (nI_leI hb (by omega)).mp a2
  have e : nI z - nI b = nI (z - b) := by
    have := nI_add (z - b) b
    rw [show z - b + b = z by omega] at this
    grind
  rw [e] at a4
  have k2 : c ≤ z - b := (nI_leI hc (by omega)).mp a4
  refine ⟨Int32.not_lt.mpr a3, Int32.not_lt.mpr a1, ?_⟩
  rw [nI_cl hb, nI_cl hc]
  omega
def okCopy (I : xI) (s i o j n : Int32) : Bool := xin s 0 3 && xin o 0 3 && !decide (I (51 + 2 * s.toNatClampNeg) 1 = -1) && !decide (I (51 + 2 * o.toNatClampNeg) 1 = -1) && decide (I (51 + 2 * s.toNatClampNeg) 1 = I (51 + 2 * o.toNatClampNeg) 1) && shRow (I (51 + 2 * s.toNatClampNeg)) i n && shRow (I (51 + 2 * o.toNatClampNeg)) j n
def aCopy (I : xI) (s i o j n : Int32) : Int32 := if xin s 0 3 = true ∧ xin o 0 3 = true then (if I (51 + 2 * s.toNatClampNeg) 1 = -1 ∨ I (51 + 2 * o.toNatClampNeg) 1 = -1 then -11 else if I (51 + 2 * s.toNatClampNeg) 1 = I (51 + 2 * o.toNatClampNeg) 1 then (if shRow (I (51 + 2 * s.toNatClampNeg)) i n = true ∧ shRow (I (51 + 2 * o.toNatClampNeg)) j n = true then n else -12) else -13) else -2
def mCopy (I : xI) (s i o j n : Int32) : xI := if okCopy I s i o j n = true then xup I ((51 + 2 * o.toNatClampNeg) + 1) (va_cpy (I ((51 + 2 * s.toNatClampNeg) + 1)) (I ((51 + 2 * o.toNatClampNeg) + 1)) i.toNatClampNeg j.toNatClampNeg n.toNatClampNeg) else I
theorem c_X_copy (l : Launch) (G : xG) {d : Nat} (nn : Nat) (I : xI) (hd : 4 ≤ d) (hc tc ln : Nat) (S : Nat → xSay) (hK : cOK I hc tc ln S) (sz : Nat → Nat) (hsz : sOK I sz) (s i o j n : Int32) : XM l G d y_X_copy b_X_copy 8 (some .int) 0 0 xK0 [.ref (xg G 0), .int s, .int i, .int o, .int j, .int n] nn (xm G xYf I) (some (.int (aCopy I s i o j n))) nn (xm G xYf (mCopy I s i o j n)) := by
  obtain ⟨⟨h10, h5⟩, ⟨h11, h6⟩, ⟨h12, hl⟩, hTs, hR⟩ := id hK
  refine XM.of (by decide) (Nat.le_of_ble_eq_true rfl) (L := [(0, .ref (xg G 0)), (1, .int s), (2, .int i), (3, .int o), (4, .int j), (5, .int n)]) rfl ?_
  refine X_iload_n d_X_copy_0 rfl rfl ?_
  refine X_callS (v := .int (xb (xin s 0 3))) (rest := []) (c_X_isSheet l G nn _ (by omega) s) lk_X_isSheet ml_X_267 rfl (Nat.le_of_ble_eq_true rfl) (xRok (d' := d - 1) (by omega) (by decide)) ⟨Nat.le_refl _, Nat.le_refl _⟩ d_X_copy_1 rfl ?_
  refine X_ifb_eq (tgt := 14) d_X_copy_4 (by decide) (fun c_1 => ?_) (fun c_1 => ?_)
  ·
    refine X_bipush (v := -2) d_X_copy_14 rfl ?_
    exact X_iret rfl (congrArg (fun q => some (Value.int q)) (by first | (simp [aCopy, c_1]; done) | (clear hTs hR hK; simp_all [aCopy]; done))) (xle_of (congrArg (xm G xYf) (by first | (simp [mCopy, okCopy, c_1]; done) | (clear hTs hR hK; simp_all [mCopy, okCopy]; done)))) d_X_copy_16
  ·
    obtain ⟨q, hq0, rfl⟩ := cTop (n := 3) (by decide) c_1
    have hq : q < 4 := by omega
    refine X_iload_n d_X_copy_7 rfl rfl ?_
    refine X_callS (v := .int (xb (xin o 0 3))) (rest := []) (c_X_isSheet l G nn _ (by omega) o) lk_X_isSheet ml_X_267 rfl (Nat.le_of_ble_eq_true rfl) (xRok (d' := d - 1) (by omega) (by decide)) ⟨Nat.le_refl _, Nat.le_refl _⟩ d_X_copy_8 rfl ?_
    refine X_ifb_ne (tgt := 17) d_X_copy_11 (by decide) (fun c_2 => ?_) (fun c_2 => ?_)
    ·
      obtain ⟨r, hr0, rfl⟩ := cTop (n := 3) (by decide) c_2
      have hr : r < 4 := by omega
      refine X_aload_n d_X_copy_17 rfl rfl ?_
      refine X_iload_n d_X_copy_18 rfl rfl ?_
      refine X_callV (v := .ref (xg G (51 + 2 * q))) (rest := []) (c_X_sheetAt l G nn xYf I (by omega) xYok_f q (by omega)) lk_X_sheetAt ml_X_256 (xm_obj (y0 xYok_f)) rfl rfl (Nat.le_of_ble_eq_true rfl) (xRok (d' := d - 1) (by omega) (by decide)) ⟨Nat.le_refl _, Nat.le_refl _⟩ d_X_copy_19 rfl ?_
      refine X_astore d_X_copy_22 (by decide) [1, 2, 3, 4, 5, 6, 0] (L' := [(0, .ref (xg G 0)), (1, .int (nI q)), (2, .int i), (3, .int (nI r)), (4, .int j), (5, .int n), (6, .ref (xg G (51 + 2 * q)))]) rfl ?_
      refine X_aload_n d_X_copy_24 rfl rfl ?_
      refine X_iload_n d_X_copy_25 rfl rfl ?_
      refine X_callV (v := .ref (xg G (51 + 2 * r))) (rest := []) (c_X_sheetAt l G nn xYf I (by omega) xYok_f r (by omega)) lk_X_sheetAt ml_X_256 (xm_obj (y0 xYok_f)) rfl rfl (Nat.le_of_ble_eq_true rfl) (xRok (d' := d - 1) (by omega) (by decide)) ⟨Nat.le_refl _, Nat.le_refl _⟩ d_X_copy_26 rfl ?_
      refine X_astore d_X_copy_29 (by decide) [1, 2, 3, 4, 5, 6, 7, 0] (L' := [(0, .ref (xg G 0)), (1, .int (nI q)), (2, .int i), (3, .int (nI r)), (4, .int j), (5, .int n), (6, .ref (xg G (51 + 2 * q))), (7, .ref (xg G (51 + 2 * r)))]) rfl ?_
      refine X_aload d_X_copy_31 rfl ?_
      refine X_callV (v := .int (xb (decide (I (51 + 2 * q) 1 = -1)))) (rest := []) (k_Sheet_isMissing l G nn xYf I (by omega) (51 + 2 * q) (yS xYok_f (show q < 4 by omega)).1 (yS xYok_f (show q < 4 by omega)).2 (I (51 + 2 * q) 1) (rfl)) lk_Sheet_isMissing ml_X_298 (xm_obj (yS xYok_f (show q < 4 by omega)).1) rfl rfl (Nat.le_of_ble_eq_true rfl) (xRok (d' := d - 1) (by omega) (by decide)) ⟨Nat.le_refl _, Nat.le_refl _⟩ d_X_copy_33 rfl ?_
      refine X_ifb_ne (tgt := 47) d_X_copy_36 (by decide) (fun c_3 => ?_) (fun c_3 => ?_)
      ·
        refine X_bipush (v := -11) d_X_copy_47 rfl ?_
        exact X_iret rfl (congrArg (fun q => some (Value.int q)) (by first | (simp [aCopy, c_1, nI_cl (show q < 2 ^ 31 by omega), c_2, nI_cl (show r < 2 ^ 31 by omega), c_3, of_decide_eq_true c_3]; done) | (clear hTs hR hK; simp_all [aCopy]; done))) (xle_of (congrArg (xm G xYf) (by first | (simp [mCopy, okCopy, c_1, nI_cl (show q < 2 ^ 31 by omega), c_2, nI_cl (show r < 2 ^ 31 by omega), c_3, of_decide_eq_true c_3]; done) | (clear hTs hR hK; simp_all [mCopy, okCopy]; done)))) d_X_copy_49
      ·
        refine X_aload d_X_copy_39 rfl ?_
        refine X_callV (v := .int (xb (decide (I (51 + 2 * r) 1 = -1)))) (rest := []) (k_Sheet_isMissing l G nn xYf I (by omega) (51 + 2 * r) (yS xYok_f (show r < 4 by omega)).1 (yS xYok_f (show r < 4 by omega)).2 (I (51 + 2 * r) 1) (rfl)) lk_Sheet_isMissing ml_X_298 (xm_obj (yS xYok_f (show r < 4 by omega)).1) rfl rfl (Nat.le_of_ble_eq_true rfl) (xRok (d' := d - 1) (by omega) (by decide)) ⟨Nat.le_refl _, Nat.le_refl _⟩ d_X_copy_41 rfl ?_
        refine X_ifb_eq (tgt := 50) d_X_copy_44 (by decide) (fun c_4 => ?_) (fun c_4 => ?_)
        ·
          refine X_aload d_X_copy_50 rfl ?_
          refine X_getI (v := I (51 + 2 * q) 1) fg_X_301 (yS xYok_f (show q < 4 by omega)).1 rfl (rfl) d_X_copy_52 ?_
          refine X_aload d_X_copy_55 rfl ?_
          refine X_getI (v := I (51 + 2 * r) 1) fg_X_301 (yS xYok_f (show r < 4 by omega)).1 rfl (rfl) d_X_copy_57 ?_
          refine X_icmp_eq (tgt := 66) d_X_copy_60 (by decide) (fun c_5 => ?_) (fun c_5 => ?_)
          ·
            refine X_aload d_X_copy_66 rfl ?_
            refine X_iload_n d_X_copy_68 rfl rfl ?_
            refine X_iload d_X_copy_69 rfl ?_
            refine X_callV (v := .int (xb (shRow (I (51 + 2 * q)) i n))) (rest := []) (c_Sheet_hasRow l G nn xYf I (by omega) (51 + 2 * q) (yS xYok_f (show q < 4 by omega)).1 (yS xYok_f (show q < 4 by omega)).2 i n) lk_Sheet_hasRow ml_X_304 (xm_obj (yS xYok_f (show q < 4 by omega)).1) rfl rfl (Nat.le_of_ble_eq_true rfl) (xRok (d' := d - 1) (by omega) (by decide)) ⟨Nat.le_refl _, Nat.le_refl _⟩ d_X_copy_71 rfl ?_
            refine X_ifb_eq (tgt := 89) d_X_copy_74 (by decide) (fun c_6 => ?_) (fun c_6 => ?_)
            ·
              refine X_bipush (v := -12) d_X_copy_89 rfl ?_
              exact X_iret rfl (congrArg (fun q => some (Value.int q)) (by first | (simp [aCopy, c_1, nI_cl (show q < 2 ^ 31 by omega), c_2, nI_cl (show r < 2 ^ 31 by omega), c_3, of_decide_eq_false c_3, c_4, of_decide_eq_false c_4, c_5, c_6]; done) | (clear hTs hR hK; simp_all [aCopy]; done))) (xle_of (congrArg (xm G xYf) (by first | (simp [mCopy, okCopy, c_1, nI_cl (show q < 2 ^ 31 by omega), c_2, nI_cl (show r < 2 ^ 31 by omega), c_3, of_decide_eq_false c_3, c_4, of_decide_eq_false c_4, c_5, c_6]; done) | (clear hTs hR hK; simp_all [mCopy, okCopy]; done)))) d_X_copy_91
            ·
              refine X_aload d_X_copy_77 rfl ?_
              refine X_iload d_X_copy_79 rfl ?_
              refine X_iload d_X_copy_81 rfl ?_
              refine X_callV (v := .int (xb (shRow (I (51 + 2 * r)) j n))) (rest := []) (c_Sheet_hasRow l G nn xYf I (by omega) (51 + 2 * r) (yS xYok_f (show r < 4 by omega)).1 (yS xYok_f (show r < 4 by omega)).2 j n) lk_Sheet_hasRow ml_X_304 (xm_obj (yS xYok_f (show r < 4 by omega)).1) rfl rfl (Nat.le_of_ble_eq_true rfl) (xRok (d' := d - 1) (by omega) (by decide)) ⟨Nat.le_refl _, Nat.le_refl _⟩ d_X_copy_83 rfl ?_
              refine X_ifb_ne (tgt := 92) d_X_copy_86 (by decide) (fun c_7 => ?_) (fun c_7 => ?_)
              ·
                refine X_aload d_X_copy_92 rfl ?_
                refine X_getR (r := 51 + 2 * q + 1) fg_X_307 (yS xYok_f (show q < 4 by omega)).1 rfl d_X_copy_94 ?_
                refine X_iload_n d_X_copy_97 rfl rfl ?_
                refine X_aload d_X_copy_98 rfl ?_
                refine X_getR (r := 51 + 2 * r + 1) fg_X_307 (yS xYok_f (show r < 4 by omega)).1 rfl d_X_copy_100 ?_
                refine X_iload d_X_copy_103 rfl ?_
                refine X_iload d_X_copy_105 rfl ?_
                have k1 := shRow_cl c_6 (hsz q hq).1 (hsz q hq).2
                have k2 := shRow_cl c_7 (hsz r hr).1 (hsz r hr).2
                refine X_copyI (yS xYok_f (show q < 4 by omega)).2 (yS xYok_f (show r < 4 by omega)).2 k1.1 k2.1 k1.2.1 k1.2.2 k2.2.2 ay_ln (by omega) (Nat.le_of_ble_eq_true rfl) d_X_copy_107 ?_
                refine X_iload d_X_copy_110 rfl ?_
                exact X_iret rfl (congrArg (fun q => some (Value.int q)) (by first | (simp [aCopy, c_1, nI_cl (show q < 2 ^ 31 by omega), c_2, nI_cl (show r < 2 ^ 31 by omega), c_3, of_decide_eq_false c_3, c_4, of_decide_eq_false c_4, c_5, c_6, c_7]; done) | (clear hTs hR hK; simp_all [aCopy]; done))) (xle_of (congrArg (xm G xYf) (by first | (simp [mCopy, okCopy, c_1, nI_cl (show q < 2 ^ 31 by omega), c_2, nI_cl (show r < 2 ^ 31 by omega), c_3, of_decide_eq_false c_3, c_4, of_decide_eq_false c_4, c_5, c_6, c_7]; done) | (clear hTs hR hK; simp_all [mCopy, okCopy]; done)))) d_X_copy_112
              ·
                refine X_bipush (v := -12) d_X_copy_89 rfl ?_
                exact X_iret rfl (congrArg (fun q => some (Value.int q)) (by first | (simp [aCopy, c_1, nI_cl (show q < 2 ^ 31 by omega), c_2, nI_cl (show r < 2 ^ 31 by omega), c_3, of_decide_eq_false c_3, c_4, of_decide_eq_false c_4, c_5, c_6, c_7]; done) | (clear hTs hR hK; simp_all [aCopy]; done))) (xle_of (congrArg (xm G xYf) (by first | (simp [mCopy, okCopy, c_1, nI_cl (show q < 2 ^ 31 by omega), c_2, nI_cl (show r < 2 ^ 31 by omega), c_3, of_decide_eq_false c_3, c_4, of_decide_eq_false c_4, c_5, c_6, c_7]; done) | (clear hTs hR hK; simp_all [mCopy, okCopy]; done)))) d_X_copy_91
          ·
            refine X_bipush (v := -13) d_X_copy_63 rfl ?_
            exact X_iret rfl (congrArg (fun q => some (Value.int q)) (by first | (simp [aCopy, c_1, nI_cl (show q < 2 ^ 31 by omega), c_2, nI_cl (show r < 2 ^ 31 by omega), c_3, of_decide_eq_false c_3, c_4, of_decide_eq_false c_4, c_5]; done) | (clear hTs hR hK; simp_all [aCopy]; done))) (xle_of (congrArg (xm G xYf) (by first | (simp [mCopy, okCopy, c_1, nI_cl (show q < 2 ^ 31 by omega), c_2, nI_cl (show r < 2 ^ 31 by omega), c_3, of_decide_eq_false c_3, c_4, of_decide_eq_false c_4, c_5]; done) | (clear hTs hR hK; simp_all [mCopy, okCopy]; done)))) d_X_copy_65
        ·
          refine X_bipush (v := -11) d_X_copy_47 rfl ?_
          exact X_iret rfl (congrArg (fun q => some (Value.int q)) (by first | (simp [aCopy, c_1, nI_cl (show q < 2 ^ 31 by omega), c_2, nI_cl (show r < 2 ^ 31 by omega), c_3, of_decide_eq_false c_3, c_4, of_decide_eq_true c_4]; done) | (clear hTs hR hK; simp_all [aCopy]; done))) (xle_of (congrArg (xm G xYf) (by first | (simp [mCopy, okCopy, c_1, nI_cl (show q < 2 ^ 31 by omega), c_2, nI_cl (show r < 2 ^ 31 by omega), c_3, of_decide_eq_false c_3, c_4, of_decide_eq_true c_4]; done) | (clear hTs hR hK; simp_all [mCopy, okCopy]; done)))) d_X_copy_49
    ·
      refine X_bipush (v := -2) d_X_copy_14 rfl ?_
      exact X_iret rfl (congrArg (fun q => some (Value.int q)) (by first | (simp [aCopy, c_1, nI_cl (show q < 2 ^ 31 by omega), c_2]; done) | (clear hTs hR hK; simp_all [aCopy]; done))) (xle_of (congrArg (xm G xYf) (by first | (simp [mCopy, okCopy, c_1, nI_cl (show q < 2 ^ 31 by omega), c_2]; done) | (clear hTs hR hK; simp_all [mCopy, okCopy]; done)))) d_X_copy_16
