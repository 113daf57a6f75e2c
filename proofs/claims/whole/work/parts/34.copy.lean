theorem ay_ln : Cond.methodLink "RoundAndRound" 310 arraycopyName ∈ xT := xT_3 232 rfl rfl
theorem ay_nat : Cond.native arraycopyName ∈ xT := xT_3 234 rfl rfl
theorem ay_st : Cond.static arraycopyName ∈ xT := xT_3 233 rfl rfl
theorem ay_in : Cond.initialized "java/lang/System" ∈ xT := xT_1 13 rfl rfl
theorem nn_int {z : Int32} (h : ¬ z < 0) : z.toInt = (z.toNatClampNeg : Int) := by
  obtain ⟨j, hj, rfl⟩ := nI_of h
  rw [nI_toInt hj, nI_cl hj]
section XCOPY
variable {l : Launch} {G : xG} {R : Room} {y : MethodName} {cc : ByteArray} {ml : Nat} {rt : Option FieldType} {K : Array Value → State → Prop} {Z : List Frame → Array Value → State → State → Prop} {n : Nat} {M : xM} {kc sl pc : Nat} {L : List (Nat × Value)} {st : List Value}
theorem X_copy {a0 a N0 N1 idx : Nat} {f g : Nat → Int32} {sp dp q : Int32} (hM0 : M a0 = some (.inl (.inl (0, N0, .inl f)))) (hM1 : M a = some (.inl (.inl (0, N1, .inl g)))) (h1 : ¬ sp < 0) (h2 : ¬ dp < 0) (h3 : ¬ q < 0) (h4 : sp.toNatClampNeg + q.toNatClampNeg ≤ N0) (h5 : dp.toNatClampNeg + q.toNatClampNeg ≤ N1) (hln : Cond.methodLink y.cls idx arraycopyName ∈ xT) (hfr : 1 ≤ R.frames ∧ (st.map fun v => v.category).sum + (nativeFrameWords "java/lang/System" "arraycopy" 5 + 11) ≤ R.locals) (hd : decode cc pc = .ok (.invokestatic idx, 3)) (kk : XW l G R y cc ml rt K Z n (xup M a (some (.inl (.inl (0, N1, .inl (va_cpy f g sp.toNatClampNeg dp.toNatClampNeg q.toNatClampNeg)))))) kc sl (pc + 3) L st) : XW l G R y cc ml rt K Z n M kc sl pc L (.int q :: .int dp :: .ref (xg G a) :: .int sp :: .ref (xg G a0) :: st) := by
  intro p e s m args below meth c H locs ls hc hH hS hL
  have hts := hc.2.2.2.2.2.2.2.1
  have hK := hc.2.2.2.2.2.2.2.2.1.1
  have c0 := xH_at hH hM0
  have c1 := xH_at hH hM1
  obtain ⟨-, k0, hk0, cm0, e0⟩ := (hK.2 0 _ rfl).1 N0 (fun j => .int (f j))
  obtain ⟨-, k1, hk1, cm1, e1⟩ := (hK.2 0 _ rfl).1 N1 (fun j => .int (g j))
  intro T hT X
  have hvals : ∀ vm', s.vm.Alike vm' → ∀ i, i < q.toNatClampNeg → fits .int ((vp_cell (G.2.1 0) (N0, .inl f)).slots.getD (sp.toNatClampNeg + i) .null) = true ∧ (T.setVm vm').takes cm1 ((vp_cell (G.2.1 0) (N0, .inl f)).slots.getD (sp.toNatClampNeg + i) .null) := by
    intro vm' _ i hi
    have e : (vp_cell (G.2.1 0) (N0, .inl f)).slots.getD (sp.toNatClampNeg + i) .null = .int (f (sp.toNatClampNeg + i)) := by
      show (arrV _ N0 (fun j => .int (f j))).slots.getD _ _ = _
      rw [Array.getD_eq_getD_getElem?, arrV_read _ _ (show sp.toNatClampNeg + i < N0 by omega)]
      rfl
    rw [e]
    exact ⟨rfl, trivial⟩
  obtain ⟨vm', X1, step⟩ := X.arraycopy hc.1 hc.2.2.2.2.2.1 (hts _ hln) (hts _ ay_nat) (hts _ ay_st) (hts _ ay_in) (cs := vp_cell (G.2.1 0) (N0, .inl f)) (cd := vp_cell (G.2.1 0) (N1, .inl g)) (by rw [hT]; exact c0) (by rw [hT]; exact c1) (fun _ z => by cases z) (fun _ z => by cases z) (fun z => by cases z) (fun z => by cases z) hk0 hk1 e0 e1 rfl h1 h2 h3
    (by rw [nn_int h1, nn_int h3]; show ¬ _ > ((arrV _ N0 (fun j => .int (f j))).slots.size : Int); rw [arrV_size]; omega)
    (by rw [nn_int h2, nn_int h3]; show ¬ _ > ((arrV _ N1 (fun j => .int (g j))).slots.size : Int); rw [arrV_size]; omega)
    hvals (g := F0 m pc ls (.int q :: .int dp :: .ref (xg G a) :: .int sp :: .ref (xg G a0) :: st)) rfl (hL.1.trans hc.2.2.1.symm) (rest := st) rfl (by rw [hc.2.1]; exact hd) hfr.1 (by show 2 * 0 + _ + _ ≤ _; omega)
  have ec : copied (vp_cell (G.2.1 0) (N0, .inl f)) (vp_cell (G.2.1 0) (N1, .inl g)) sp dp q = vp_cell (G.2.1 0) (N1, .inl (va_cpy f g sp.toNatClampNeg dp.toNatClampNeg q.toNatClampNeg)) := va_copied (fun z => .int z) _ _ f g h4
  rw [ec] at X1 step
  have hlt : xg G a < H.size := (Array.getElem?_eq_some_iff.mp c1).1
  have oq : ∀ z : Nat, z ≠ xg G a → (H.setIfInBounds (xg G a) (vp_cell (G.2.1 0) (N1, .inl (va_cpy f g sp.toNatClampNeg dp.toNatClampNeg q.toNatClampNeg))))[z]? = H[z]? := fun z hz => by simp [Array.getElem?_setIfInBounds, Ne.symm hz]
  obtain ⟨t, b1, b2⟩ := kk p e s m args below meth c _ _ ls hc (xH_set hH hM1 (H1 := H.setIfInBounds (xg G a) (vp_cell (G.2.1 0) (N1, .inl (va_cpy f g sp.toNatClampNeg dp.toNatClampNeg q.toNatClampNeg)))) (by simp) oq (show (H.setIfInBounds (xg G a) _)[xg G a]? = some _ by simp [Array.getElem?_setIfInBounds, hlt])) ⟨by simp; exact hS.1, fun z g1 g2 => by
      rw [oq z (fun e => g2 (by rw [e]; exact xF_in G a))]
      exact hS.2.1 z g1 g2, fun z hz => by
      rcases List.mem_append.mp hz with h | h
      · exact hS.2.2 z h
      · obtain ⟨w, -, hw⟩ := List.mem_map.mp h
        rw [← hw]
        exact xF_in G a⟩ hL _ (by rw [← hT]; rfl) X1
  exact ⟨t, step t b1, b2⟩
end XCOPY
