-- what is known of a literal: its address q, its bytes f at v, N of them
def xJ (G : xG) (q v N : Nat) (f : Nat → Int32) (U : State) : Prop := va_Z "java/lang/String" "COMPACT_STRINGS" "Z" (.int 1) (xF G) U U.heap ∧ (∃ w : Value, w.isRef = true ∧ va_Z "jdk/internal/util/Preconditions" "SIOOBE_FORMATTER" "Ljava/util/function/BiFunction;" w (xF G) U U.heap) ∧ va_O "java/lang/String" q (xF G) U U.heap ∧ va_OF "java/lang/String" "coder" "B" (.int 0) q (xF G) U U.heap ∧ va_OF "java/lang/String" "value" "[B" (.ref v) q (xF G) U U.heap ∧ va_T .byte v N (fun j => .int (f j)) (xF G) U U.heap
def xTo (G : xG) (P P' : State → Prop) : Prop := (∀ s U : State, P s → s.WarmedH U.vm → (∀ a, a < s.heap.size → ¬ xF G a → U.heap[a]? = s.heap[a]?) → P' U) ∧ ∀ (U : State) (g : JFrame) (mk : MethodId) (a : Array Value), P' U → P' (U.calling g mk a)
theorem xJ_al {G : xG} {q v N : Nat} {f : Nat → Int32} {s U : State} (h : xJ G q v N f s) (ha : s.vm.Alike U.vm) (hk : ∀ a, a < s.heap.size → ¬ xF G a → U.heap[a]? = s.heap[a]?) : xJ G q v N f U := by
  obtain ⟨h1, ⟨w, hw, h2⟩, h3, h4, h5, h6⟩ := h
  exact ⟨(va_Z.moved ha h1).kept hk, ⟨w, hw, (va_Z.moved ha h2).kept hk⟩, (va_O.moved ha h3).kept hk, (va_OF.moved ha h4).kept hk, (va_OF.moved ha h5).kept hk, (va_T.moved ha h6).kept hk⟩
theorem xJ_to {G : xG} {q v N : Nat} {f : Nat → Int32} : xTo G (xJ G q v N f) (xJ G q v N f) :=
  ⟨fun _ _ h hW hk => xJ_al h hW.alike hk, fun U _ _ _ h => xJ_al h (Vm.Alike.refl U.vm) (fun _ _ _ => rfl)⟩
def xKL (P : State → Prop) : Array Value → State → Prop := fun _ U => P U
theorem xblJ {G : xG} {n : Nat} {M : xM} {as : List Value} {P P' : State → Prop} (hP : xTo G P P') : FrameBlind (va_Pc as (fun U => xK G U ∧ G.2.2 ≤ U.heap.size ∧ xH G n M U.heap ∧ xKL P' as.toArray U)) := by
  intro a U g mk ⟨q1, q2, q3, q4, q5⟩
  exact ⟨q1, xK_same (u := U) (U := U.calling g mk a) rfl q2, q3, q4, hP.2 U g mk a q5⟩
section XJDK
variable {l : Launch} {G : xG} {R : Room} {y : MethodName} {cc : ByteArray} {ml : Nat} {rt : Option FieldType} {P P' : State → Prop} {K : Array Value → State → Prop} {Z : List Frame → Array Value → State → State → Prop} {n : Nat} {M : xM} {kc sl pc : Nat} {L : List (Nat × Value)} {st : List Value}
variable {y' : MethodName} {b' : ByteArray} {ml' na mc ms d' n' a b idx : Nat} {rt' : Option FieldType} {As rest : List Value} {r : Option Value} {M' : xM} {v : Value}
theorem X_ishr {x z : Int32} (hd : decode cc pc = .ok (.ishr, 1)) (k : XW l G R y cc ml rt K Z n M kc sl (pc + 1) L (.int (x >>> (z &&& 31)) :: st)) : XW l G R y cc ml rt K Z n M kc sl pc L (.int z :: .int x :: st) := by
  intro p e s m args below meth c H locs ls hc hH hS hL
  exact lv_ishr hc.1 hc.2.1 hd (k p e s m args below meth c H locs ls hc hH hS hL)
theorem X_i2c {x w : Int32} (hv : (x.toUInt32 % 65536).toInt32 = w) (hd : decode cc pc = .ok (.i2c, 1)) (k : XW l G R y cc ml rt K Z n M kc sl (pc + 1) L (.int w :: st)) : XW l G R y cc ml rt K Z n M kc sl pc L (.int x :: st) := by
  intro p e s m args below meth c H locs ls hc hH hS hL
  exact lv_i2c hc.1 hc.2.1 hd hv (k p e s m args below meth c H locs ls hc hH hS hL)
theorem X_nret {x : Int32} {ty : FieldType} (hrt : rt = some ty) (hx : narrow ty (.int x) = .int x) (hr : r = some (.int x)) (hM : xle M M') (hd : decode cc pc = .ok (.ireturn, 1)) : XW l G R y cc ml rt K (xZ G n M' r kc sl) n M kc sl pc L [.int x] := by
  intro p e s m args below meth c H locs ls hc hH hS hL
  exact W.zret hc.1 hc.2.1 (hc.2.2.2.1.trans hrt) hx (fun t ht _ => ⟨⟨by rw [hr], by rw [ht]; exact hM G n H hH⟩, hS.F ht⟩) hS.2.2 hd hc.2.2.2.2.1
theorem X_getJ {index : Nat} {o nm ds : String} (hOF : ∀ s, P s → va_OF o nm ds v b (xF G) s s.heap) (hln : Cond.fieldLink y.cls index o nm ds ∈ xT) (hd : decode cc pc = .ok (.getfield index, 3)) (k : XW l G R y cc ml rt (xKL P) Z n M kc sl (pc + 3) L (v :: st)) : XW l G R y cc ml rt (xKL P) Z n M kc sl pc L (.ref b :: st) := by
  intro p e s m args below meth c H locs ls hc hH hS hL
  exact vk_getf hc.1 hc.2.1 (hOF s hc.2.2.2.2.2.2.2.2.2.1) hS hc.2.2.2.2.2.1 (hc.2.2.2.2.2.2.2.1 _ hln) (fun _ h => h) hd (k p e s m args below meth c H locs ls hc hH hS hL)
theorem X_gstJ {index : Nat} {o nm ds : String} (hZ : ∀ s, P s → va_Z o nm ds v (xF G) s s.heap) (hln : Cond.fieldLink y.cls index o nm ds ∈ xT) (hd : decode cc pc = .ok (.getstatic index, 3)) (k : XW l G R y cc ml rt (xKL P) Z n M kc sl (pc + 3) L (v :: st)) : XW l G R y cc ml rt (xKL P) Z n M kc sl pc L st := by
  intro p e s m args below meth c H locs ls hc hH hS hL
  exact va_gets hc.1 hc.2.1 (hZ s hc.2.2.2.2.2.2.2.2.2.1) hS hc.2.2.2.2.2.1 (hc.2.2.2.2.2.2.2.1 _ hln) (fun _ h => h) hd (k p e s m args below meth c H locs ls hc hH hS hL)
theorem xrf {w : Value} (hw : w.isRef = true) : (∃ a, w = .ref a) ∨ w = .null := by
  cases w <;> first | exact Or.inl ⟨_, rfl⟩ | exact Or.inr rfl | cases hw
theorem X_gstR {index : Nat} {o nm ds : String} (hZ : ∀ s, P s → ∃ w : Value, w.isRef = true ∧ va_Z o nm ds w (xF G) s s.heap) (hln : Cond.fieldLink y.cls index o nm ds ∈ xT) (hd : decode cc pc = .ok (.getstatic index, 3)) (k : ∀ a, XW l G R y cc ml rt (xKL P) Z n M kc sl (pc + 3) L (.ref a :: st)) (kn : XW l G R y cc ml rt (xKL P) Z n M kc sl (pc + 3) L (.null :: st)) : XW l G R y cc ml rt (xKL P) Z n M kc sl pc L st := by
  intro p e s m args below meth c H locs ls hc hH hS hL
  obtain ⟨w, hw, ha⟩ := hZ s hc.2.2.2.2.2.2.2.2.2.1
  rcases xrf hw with ⟨a, rfl⟩ | rfl
  · exact va_gets hc.1 hc.2.1 ha hS hc.2.2.2.2.2.1 (hc.2.2.2.2.2.2.2.1 _ hln) (fun _ h => h) hd (k a p e s m args below meth c H locs ls hc hH hS hL)
  · exact va_gets hc.1 hc.2.1 ha hS hc.2.2.2.2.2.1 (hc.2.2.2.2.2.2.2.1 _ hln) (fun _ h => h) hd (kn p e s m args below meth c H locs ls hc hH hS hL)
theorem X_tlenJ {N : Nat} {f : Nat → Value} {w : Int32} (hT : ∀ s, P s → va_T .byte b N f (xF G) s s.heap) (hv : Int32.ofNat N = w) (hd : decode cc pc = .ok (.arraylength, 1)) (k : XW l G R y cc ml rt (xKL P) Z n M kc sl (pc + 1) L (.int w :: st)) : XW l G R y cc ml rt (xKL P) Z n M kc sl pc L (.ref b :: st) := by
  intro p e s m args below meth c H locs ls hc hH hS hL
  exact va_tlen hc.1 hc.2.1 (hT s hc.2.2.2.2.2.2.2.2.2.1) hS hv hd (k p e s m args below meth c H locs ls hc hH hS hL)
theorem X_tbJ {N : Nat} {f : Nat → Value} {i : Int32} (hT : ∀ s, P s → va_T .byte b N f (xF G) s s.heap) (hin : vp_in i N) (hv : f i.toNatClampNeg = v) (hd : decode cc pc = .ok (.baload, 1)) (k : XW l G R y cc ml rt (xKL P) Z n M kc sl (pc + 1) L (v :: st)) : XW l G R y cc ml rt (xKL P) Z n M kc sl pc L (.int i :: .ref b :: st) := by
  intro p e s m args below meth c H locs ls hc hH hS hL
  exact va_tb hc.1 hc.2.1 (hT s hc.2.2.2.2.2.2.2.2.2.1) hS hin hv hd (k p e s m args below meth c H locs ls hc hH hS hL)
theorem X_ldcJ {index : Nat} {tx : String} (hR : ∀ s, P s → vk_R y.cls index tx b s) (hd : decode cc pc = .ok (.ldc index, 2)) (k : XW l G R y cc ml rt (xKL P) Z n M kc sl (pc + 2) L (.ref b :: st)) : XW l G R y cc ml rt (xKL P) Z n M kc sl pc L st := by
  intro p e s m args below meth c H locs ls hc hH hS hL
  exact va_ldcS hc.1 hc.2.1 hc.2.2.2.2.2.1 (hR s hc.2.2.2.2.2.2.2.2.2.1) hd (k p e s m args below meth c H locs ls hc hH hS hL)
theorem X_callVJ (hTo : xTo G P P') (hO : ∀ s, P s → va_O y'.cls b (xF G) s s.heap) (hM : XM l G d' y' b' ml' rt' mc ms (xKL P') (.ref b :: As) n M (some v) n' M') (hlk : xLV y' b' ml' rt' na) (hln : Cond.methodLink y.cls idx y' ∈ xT) (hna : As.length = na) (hrest : (rest.map fun v => v.category).sum ≤ 8) (hR : d' + 1 ≤ R.frames ∧ 8 + (ml' + 11) + 64 * d' ≤ R.locals) (hcs : kc + mc ≤ R.cells ∧ sl + ms ≤ R.slots) (hd : decode cc pc = .ok (.invokevirtual idx, 3)) (hst : As.reverse ++ .ref b :: rest = st) (kk : XW l G R y cc ml rt (xKL P) Z n' M' (kc + mc) (sl + ms) (pc + 3) L (v :: rest)) : XW l G R y cc ml rt (xKL P) Z n M kc sl pc L st := by
  intro p e s m args below meth c H locs ls hc hH hS hL
  have hts := hc.2.2.2.2.2.2.2.1
  have hKs := hc.2.2.2.2.2.2.2.2.1
  have hPs : P s := hc.2.2.2.2.2.2.2.2.2.1
  have hrv : ∃ cell : Cell, H[b]? = some cell ∧ cell.vm.isStatics = false ∧ s.vm.findClass y'.cls = some cell.cls := by
    obtain ⟨cell, h1, h2, h3, -⟩ := (hO s hPs).kept hS.2.1
    exact ⟨cell, h1, h2, h3⟩
  exact xcall (r := (some v)) (va_runV (rest := rest) ⟨hc.1, hc.2.1, hc.2.2.1, hc.2.2.2.2.2.1, hts⟩ hM ⟨callB_of na hts (xgood hlk.1.2.1) rfl rfl rfl (hts _ hlk.1.1) (hts _ hln) ⟨hlk.1.2.2.1, hlk.1.2.2.2.1, hlk.1.2.2.2.2⟩ hR, hts _ hlk.2.1, hts _ hlk.2.2⟩ ⟨xblJ hTo, hrv, fun U hU hW => ⟨rfl, xK_warm hW hKs, by rw [hU]; exact Nat.le_trans hc.2.2.2.2.2.2.2.2.2.2 hS.1, by rw [hU]; exact hH, hTo.1 s U hPs hW (by rw [hU]; exact hS.2.1)⟩⟩ rfl hna hL.1 hst.symm (lv_room (pc := pc) (m := m) (ls := ls) (rest := st) hrest) hd hcs) hS (fun H1 locs1 h1 h2 => kk p e s m args below meth c H1 locs1 ls hc h1 h2 hL)
theorem X_callSJ (hTo : xTo G P P') (hM : XM l G d' y' b' ml' rt' mc ms (xKL P') As n M r n' M') (hlk : xLS y' b' ml' rt' na) (hln : Cond.methodLink y.cls idx y' ∈ xT) (hna : As.length = na) (hrest : (rest.map fun v => v.category).sum ≤ 8) (hR : d' + 1 ≤ R.frames ∧ 8 + (ml' + 11) + 64 * d' ≤ R.locals) (hcs : kc + mc ≤ R.cells ∧ sl + ms ≤ R.slots) (hd : decode cc pc = .ok (.invokestatic idx, 3)) (hst : As.reverse ++ rest = st) (kk : XW l G R y cc ml rt (xKL P) Z n' M' (kc + mc) (sl + ms) (pc + 3) L (r.toList ++ rest)) : XW l G R y cc ml rt (xKL P) Z n M kc sl pc L st := by
  intro p e s m args below meth c H locs ls hc hH hS hL
  have hts := hc.2.2.2.2.2.2.2.1
  have hKs := hc.2.2.2.2.2.2.2.2.1
  have hPs : P s := hc.2.2.2.2.2.2.2.2.2.1
  exact xcall (r := r) (va_runS (rest := rest) ⟨hc.1, hc.2.1, hc.2.2.1, hc.2.2.2.2.2.1, hts⟩ hM ⟨callB_of na hts (xgood hlk.1.2.1) rfl rfl rfl (hts _ hlk.1.1) (hts _ hln) ⟨hlk.1.2.2.1, hlk.1.2.2.2.1, hlk.1.2.2.2.2⟩ hR, hts _ hlk.2⟩ ⟨xblJ hTo, fun U hU hW => ⟨rfl, xK_warm hW hKs, by rw [hU]; exact Nat.le_trans hc.2.2.2.2.2.2.2.2.2.2 hS.1, by rw [hU]; exact hH, hTo.1 s U hPs hW (by rw [hU]; exact hS.2.1)⟩⟩ rfl hna hL.1 hst.symm (lv_room (pc := pc) (m := m) (ls := ls) (rest := st) hrest) hd hcs) hS (fun H1 locs1 h1 h2 => kk p e s m args below meth c H1 locs1 ls hc h1 h2 hL)
end XJDK
def y_J_length : MethodName := ⟨"java/lang/String", "length", "()I"⟩
abbrev b_J_length : ByteArray := prog_10_method_54_code
theorem d_J_length_0 : decode b_J_length 0 = .ok (.aload_n 0, 1) := by decide +kernel
theorem d_J_length_1 : decode b_J_length 1 = .ok (.getfield 9, 3) := by decide +kernel
theorem d_J_length_4 : decode b_J_length 4 = .ok (.arraylength, 1) := by decide +kernel
theorem d_J_length_5 : decode b_J_length 5 = .ok (.aload_n 0, 1) := by decide +kernel
theorem d_J_length_6 : decode b_J_length 6 = .ok (.invokevirtual 335, 3) := by decide +kernel
theorem d_J_length_9 : decode b_J_length 9 = .ok (.ishr, 1) := by decide +kernel
theorem d_J_length_10 : decode b_J_length 10 = .ok (.ireturn, 1) := by decide +kernel
theorem lb_J_length : xLB y_J_length b_J_length 1 (some .int) 0 := ⟨xT_1 5 rfl rfl, xT_1 100 rfl rfl, by decide, by decide, by decide +kernel⟩
theorem lk_J_length : xLV y_J_length b_J_length 1 (some .int) 0 := ⟨lb_J_length, xT_1 98 rfl rfl, xT_1 99 rfl rfl⟩
def y_J_coder : MethodName := ⟨"java/lang/String", "coder", "()B"⟩
abbrev b_J_coder : ByteArray := prog_10_method_152_code
theorem d_J_coder_0 : decode b_J_coder 0 = .ok (.getstatic 38, 3) := by decide +kernel
theorem d_J_coder_3 : decode b_J_coder 3 = .ok (.ifCond .eq 10, 3) := by decide +kernel
theorem d_J_coder_6 : decode b_J_coder 6 = .ok (.aload_n 0, 1) := by decide +kernel
theorem d_J_coder_7 : decode b_J_coder 7 = .ok (.getfield 15, 3) := by decide +kernel
theorem d_J_coder_10 : decode b_J_coder 10 = .ok (.goto 4, 3) := by decide +kernel
theorem d_J_coder_14 : decode b_J_coder 14 = .ok (.ireturn, 1) := by decide +kernel
theorem lb_J_coder : xLB y_J_coder b_J_coder 1 (some .byte) 0 := ⟨xT_1 5 rfl rfl, xT_1 104 rfl rfl, by decide, by decide, by decide +kernel⟩
theorem lk_J_coder : xLV y_J_coder b_J_coder 1 (some .byte) 0 := ⟨lb_J_coder, xT_1 102 rfl rfl, xT_1 103 rfl rfl⟩
def y_J_charAt : MethodName := ⟨"java/lang/String", "charAt", "(I)C"⟩
abbrev b_J_charAt : ByteArray := prog_10_method_56_code
theorem d_J_charAt_0 : decode b_J_charAt 0 = .ok (.aload_n 0, 1) := by decide +kernel
theorem d_J_charAt_1 : decode b_J_charAt 1 = .ok (.invokevirtual 492, 3) := by decide +kernel
theorem d_J_charAt_4 : decode b_J_charAt 4 = .ok (.ifCond .eq 12, 3) := by decide +kernel
theorem d_J_charAt_7 : decode b_J_charAt 7 = .ok (.aload_n 0, 1) := by decide +kernel
theorem d_J_charAt_8 : decode b_J_charAt 8 = .ok (.getfield 9, 3) := by decide +kernel
theorem d_J_charAt_11 : decode b_J_charAt 11 = .ok (.iload_n 1, 1) := by decide +kernel
theorem d_J_charAt_12 : decode b_J_charAt 12 = .ok (.invokestatic 495, 3) := by decide +kernel
theorem d_J_charAt_15 : decode b_J_charAt 15 = .ok (.ireturn, 1) := by decide +kernel
theorem lb_J_charAt : xLB y_J_charAt b_J_charAt 2 (some .char) 1 := ⟨xT_1 5 rfl rfl, xT_1 110 rfl rfl, by decide, by decide, by decide +kernel⟩
theorem lk_J_charAt : xLV y_J_charAt b_J_charAt 2 (some .char) 1 := ⟨lb_J_charAt, xT_1 108 rfl rfl, xT_1 109 rfl rfl⟩
def y_J_isLatin1 : MethodName := ⟨"java/lang/String", "isLatin1", "()Z"⟩
abbrev b_J_isLatin1 : ByteArray := prog_10_method_154_code
theorem d_J_isLatin1_0 : decode b_J_isLatin1 0 = .ok (.getstatic 38, 3) := by decide +kernel
theorem d_J_isLatin1_3 : decode b_J_isLatin1 3 = .ok (.ifCond .eq 14, 3) := by decide +kernel
theorem d_J_isLatin1_6 : decode b_J_isLatin1 6 = .ok (.aload_n 0, 1) := by decide +kernel
theorem d_J_isLatin1_7 : decode b_J_isLatin1 7 = .ok (.getfield 15, 3) := by decide +kernel
theorem d_J_isLatin1_10 : decode b_J_isLatin1 10 = .ok (.ifCond .ne 7, 3) := by decide +kernel
theorem d_J_isLatin1_13 : decode b_J_isLatin1 13 = .ok (.iconst 1, 1) := by decide +kernel
theorem d_J_isLatin1_14 : decode b_J_isLatin1 14 = .ok (.goto 4, 3) := by decide +kernel
theorem d_J_isLatin1_18 : decode b_J_isLatin1 18 = .ok (.ireturn, 1) := by decide +kernel
theorem lb_J_isLatin1 : xLB y_J_isLatin1 b_J_isLatin1 1 (some .boolean) 0 := ⟨xT_1 5 rfl rfl, xT_1 114 rfl rfl, by decide, by decide, by decide +kernel⟩
theorem lk_J_isLatin1 : xLV y_J_isLatin1 b_J_isLatin1 1 (some .boolean) 0 := ⟨lb_J_isLatin1, xT_1 112 rfl rfl, xT_1 113 rfl rfl⟩
def y_J_lcharAt : MethodName := ⟨"java/lang/StringLatin1", "charAt", "([BI)C"⟩
abbrev b_J_lcharAt : ByteArray := prog_11_method_2_code
theorem d_J_lcharAt_0 : decode b_J_lcharAt 0 = .ok (.iload_n 1, 1) := by decide +kernel
theorem d_J_lcharAt_1 : decode b_J_lcharAt 1 = .ok (.aload_n 0, 1) := by decide +kernel
theorem d_J_lcharAt_2 : decode b_J_lcharAt 2 = .ok (.arraylength, 1) := by decide +kernel
theorem d_J_lcharAt_3 : decode b_J_lcharAt 3 = .ok (.invokestatic 9, 3) := by decide +kernel
theorem d_J_lcharAt_6 : decode b_J_lcharAt 6 = .ok (.aload_n 0, 1) := by decide +kernel
theorem d_J_lcharAt_7 : decode b_J_lcharAt 7 = .ok (.iload_n 1, 1) := by decide +kernel
theorem d_J_lcharAt_8 : decode b_J_lcharAt 8 = .ok (.baload, 1) := by decide +kernel
theorem d_J_lcharAt_9 : decode b_J_lcharAt 9 = .ok (.sipush 255, 3) := by decide +kernel
theorem d_J_lcharAt_12 : decode b_J_lcharAt 12 = .ok (.iand, 1) := by decide +kernel
theorem d_J_lcharAt_13 : decode b_J_lcharAt 13 = .ok (.i2c, 1) := by decide +kernel
theorem d_J_lcharAt_14 : decode b_J_lcharAt 14 = .ok (.ireturn, 1) := by decide +kernel
theorem lb_J_lcharAt : xLB y_J_lcharAt b_J_lcharAt 2 (some .char) 2 := ⟨xT_1 6 rfl rfl, xT_1 117 rfl rfl, by decide, by decide, by decide +kernel⟩
theorem lk_J_lcharAt : xLS y_J_lcharAt b_J_lcharAt 2 (some .char) 2 := ⟨lb_J_lcharAt, xT_1 116 rfl rfl⟩
def y_J_check : MethodName := ⟨"java/lang/String", "checkIndex", "(II)V"⟩
abbrev b_J_check : ByteArray := prog_10_method_155_code
theorem d_J_check_0 : decode b_J_check 0 = .ok (.iload_n 0, 1) := by decide +kernel
theorem d_J_check_1 : decode b_J_check 1 = .ok (.iload_n 1, 1) := by decide +kernel
theorem d_J_check_2 : decode b_J_check 2 = .ok (.getstatic 1053, 3) := by decide +kernel
theorem d_J_check_5 : decode b_J_check 5 = .ok (.invokestatic 1059, 3) := by decide +kernel
theorem d_J_check_8 : decode b_J_check 8 = .ok (.pop, 1) := by decide +kernel
theorem d_J_check_9 : decode b_J_check 9 = .ok (.return_, 1) := by decide +kernel
theorem lb_J_check : xLB y_J_check b_J_check 2 none 2 := ⟨xT_1 5 rfl rfl, xT_1 120 rfl rfl, by decide, by decide, by decide +kernel⟩
theorem lk_J_check : xLS y_J_check b_J_check 2 none 2 := ⟨lb_J_check, xT_1 119 rfl rfl⟩
def y_J_pcheck : MethodName := ⟨"jdk/internal/util/Preconditions", "checkIndex", "(IILjava/util/function/BiFunction;)I"⟩
abbrev b_J_pcheck : ByteArray := prog_14_method_11_code
theorem d_J_pcheck_0 : decode b_J_pcheck 0 = .ok (.iload_n 0, 1) := by decide +kernel
theorem d_J_pcheck_1 : decode b_J_pcheck 1 = .ok (.ifCond .lt 8, 3) := by decide +kernel
theorem d_J_pcheck_4 : decode b_J_pcheck 4 = .ok (.iload_n 0, 1) := by decide +kernel
theorem d_J_pcheck_5 : decode b_J_pcheck 5 = .ok (.iload_n 1, 1) := by decide +kernel
theorem d_J_pcheck_6 : decode b_J_pcheck 6 = .ok (.if_icmp .lt 10, 3) := by decide +kernel
theorem d_J_pcheck_16 : decode b_J_pcheck 16 = .ok (.iload_n 0, 1) := by decide +kernel
theorem d_J_pcheck_17 : decode b_J_pcheck 17 = .ok (.ireturn, 1) := by decide +kernel
theorem lb_J_pcheck : xLB y_J_pcheck b_J_pcheck 3 (some .int) 3 := ⟨xT_1 7 rfl rfl, xT_1 125 rfl rfl, by decide, by decide, by decide +kernel⟩
theorem lk_J_pcheck : xLS y_J_pcheck b_J_pcheck 3 (some .int) 3 := ⟨lb_J_pcheck, xT_1 124 rfl rfl⟩
