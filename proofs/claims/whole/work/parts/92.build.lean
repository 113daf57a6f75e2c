-- construction: the first j objects of the layout stand, object o has its fields vs by now
def xYn (j : Nat) : xY := fun k => if k < j then xYf k else none
theorem xYn_75 : xYn 75 = xYf := by
  funext k
  unfold xYn
  by_cases h : k < 75
  · rw [if_pos h]
  · rw [if_neg h]
    exact (List.getElem?_eq_none (show xYl.length ≤ k from Nat.le_of_not_lt h)).symm
def mR (G : xG) (o ci j : Nat) (I : xI) (vs : List Value) : xM := xup (xm G (xYn j) I) o (some (.inl (.inr (ci, vs))))
def xla (l : List Int32) : Nat → Int32 := fun j => l.getD j 0
theorem xla_take {w : List Int32} {i : Nat} {v : Int32} (h : w[i]? = some v) : xup (xla (w.take i)) i v = xla (w.take (i + 1)) := by
  funext j
  obtain ⟨hi, hv⟩ := List.getElem?_eq_some_iff.mp h
  by_cases e : j = i
  · subst e
    rw [xup_s]
    unfold xla
    rw [List.getD_eq_getElem?_getD, List.getElem?_take, if_pos (by omega), h]
    rfl
  · rw [xup_n _ _ e]
    unfold xla
    rw [List.getD_eq_getElem?_getD, List.getD_eq_getElem?_getD, List.getElem?_take, List.getElem?_take]
    by_cases e2 : j < i
    · rw [if_pos e2, if_pos (by omega)]
    · rw [if_neg e2, if_neg (by omega)]
section XCON
variable {l : Launch} {G : xG} {R : Room} {y : MethodName} {cc : ByteArray} {ml : Nat} {rt : Option FieldType} {K : Array Value → State → Prop} {Z : List Frame → Array Value → State → State → Prop} {n : Nat} {I : xI} {kc sl pc : Nat} {L : List (Nat × Value)} {st : List Value} {o ci j : Nat} {vs : List Value}
theorem X_le {M M' : xM} (h : xle M M') (k : XW l G R y cc ml rt K Z n M' kc sl pc L st) : XW l G R y cc ml rt K Z n M kc sl pc L st :=
  fun p e s m args below meth c H locs ls hc hH hS hL => k p e s m args below meth c H locs ls hc (h G n H hH) hS hL
theorem mR_o : mR G o ci j I vs o = some (.inl (.inr (ci, vs))) := xup_s _ _ _
theorem mR_a {a : Nat} {sh : xS} (hY : xYf a = some sh) (h : a ≠ o) (ha : a < j) : mR G o ci j I vs a = some (xcell G sh (I a)) := by
  rw [mR, xup_n _ _ h]
  show (xYn j a).map _ = _
  rw [xYn, if_pos ha, hY]
  rfl
theorem mR_set {a : Nat} {sh : xS} {f : Nat → Int32} (hY : xYf a = some sh) (h : a ≠ o) (ha : a < j) : xup (mR G o ci j I vs) a (some (xcell G sh f)) = mR G o ci j (xup I a f) vs := by
  rw [mR, mR, xup_comm _ _ _ (Ne.symm h), xm_up (show xYn j a = some sh by rw [xYn, if_pos ha, hY])]
theorem mR_new {sh : xS} {f : Nat → Int32} (hY : xYf j = some sh) (ho : o < j) : xup (mR G o ci j I vs) j (some (xcell G sh f)) = mR G o ci (j + 1) (xup I j f) vs := by
  funext k
  by_cases h1 : k = j
  · subst h1
    rw [xup_s, mR_a hY (by omega) (by omega), xup_s]
  · rw [xup_n _ _ h1]
    by_cases h2 : k = o
    · subst h2
      rw [mR_o, mR_o]
    · rw [mR, mR, xup_n _ _ h2, xup_n _ _ h2]
      show (xYn j k).map (fun sh => xcell G sh (I k)) = (xYn (j + 1) k).map (fun sh => xcell G sh (xup I j f k))
      have e : xYn (j + 1) k = xYn j k := by
        unfold xYn
        by_cases h3 : k < j
        · rw [if_pos h3, if_pos (by omega)]
        · rw [if_neg h3, if_neg (by omega)]
      rw [e, xup_n _ _ h1]
theorem N_newI {N' : Nat} {z : Int32} (f : Nat → Int32) (hf : f = fun _ => 0) (hY : xYf j = some (sInts N')) (ho : o < j) (hn : ¬ z < 0) (hN : z.toNatClampNeg = N') (hbytes : N' * 4 ≤ 536870912) (hcells : kc + 1 ≤ R.cells) (hslots : sl + N' ≤ R.slots) (hd : decode cc pc = .ok (.newarray .int, 2)) (kk : XW l G R y cc ml rt K Z (j + 1) (mR G o ci (j + 1) (xup I j f) vs) (kc + 1) (sl + N') (pc + 2) L (.ref (xg G j) :: st)) : XW l G R y cc ml rt K Z j (mR G o ci j I vs) kc sl pc L (.int z :: st) := by
  refine X_newI ac_int hn hN hbytes hcells hslots hd ?_
  have e : xup (mR G o ci j I vs) j (some (.inl (.inl (0, N', .inl (fun _ => 0))))) = mR G o ci (j + 1) (xup I j f) vs := by rw [← hf]; exact mR_new (sh := .inr (.inl N')) hY ho
  rw [e]
  exact kk
theorem N_newV {N' : Nat} {z : Int32} (hY : xYf j = some (sVague N')) (h1000 : N' < 1000) (ho : o < j) (hn : ¬ z < 0) (hN : z.toNatClampNeg = N') (hbytes : N' * 4 ≤ 536870912) (hcells : kc + 1 ≤ R.cells) (hslots : sl + N' ≤ R.slots) (hd : decode cc pc = .ok (.newarray .int, 2)) (kk : XW l G R y cc ml rt K Z (j + 1) (mR G o ci (j + 1) (xup I j (fun _ => 0)) vs) (kc + 1) (sl + N') (pc + 2) L (.ref (xg G j) :: st)) : XW l G R y cc ml rt K Z j (mR G o ci j I vs) kc sl pc L (.int z :: st) := by
  refine X_newI ac_int hn hN hbytes hcells hslots hd ?_
  refine X_le (xle_forget (F := xvg G N') (f := fun _ => 0) (a := j) (by rw [xup_s, xvg_a G h1000])) ?_
  rw [xup_up]
  have e : xup (mR G o ci j I vs) j (some (.inr (xvg G N'))) = mR G o ci (j + 1) (xup I j (fun _ => 0)) vs := mR_new (sh := .inr (.inr (.inr (.inr N')))) hY ho
  rw [e]
  exact kk
theorem N_put {index k a : Nat} {ty : FieldType} {vs' : List Value} (hw : xFP y.cls index ci k ty true) (hnm : y.name = "<init>") (hn : narrow ty (.ref a) = .ref a) (hfit : fits ty (.ref a) = true) (hl : k < vs.length) (hvs : vs.set k (.ref a) = vs') (hd : decode cc pc = .ok (.putfield index, 3)) (kk : XW l G R y cc ml rt K Z n (mR G o ci j I vs') kc sl (pc + 3) L st) : XW l G R y cc ml rt K Z n (mR G o ci j I vs) kc sl pc L (.ref a :: .ref (xg G o) :: st) := by
  refine X_putfieldF k hw hnm mR_o hn hfit hl hd ?_
  rw [mR, xup_up, hvs]
  exact kk
theorem N_ast {a N : Nat} {i x : Int32} (w : List Int32) (i' : Nat) (hi : i.toNatClampNeg = i') (hw : w[i']? = some x) (hY : xYf a = some (sInts N)) (h : a ≠ o) (ha : a < j) (hin : vp_in i N) (hd : decode cc pc = .ok (.iastore, 1)) (kk : XW l G R y cc ml rt K Z n (mR G o ci j (xup I a (xla (w.take (i' + 1)))) vs) kc sl (pc + 1) L st) : XW l G R y cc ml rt K Z n (mR G o ci j (xup I a (xla (w.take i'))) vs) kc sl pc L (.int x :: .int i :: .ref (xg G a) :: st) := by
  refine X_iast (N := N) (f := xla (w.take i')) ((mR_a (sh := .inr (.inl N)) hY h ha).trans (by rw [xup_s]; rfl)) hin hd ?_
  have e : xup (mR G o ci j (xup I a (xla (w.take i'))) vs) a (some (.inl (.inl (0, N, .inl (xup (xla (w.take i')) i.toNatClampNeg x))))) = mR G o ci j (xup I a (xla (w.take (i' + 1)))) vs := by
    rw [hi, xla_take hw]
    have e2 := mR_set (G := G) (ci := ci) (I := xup I a (xla (w.take i'))) (vs := vs) (sh := .inr (.inl N)) (f := xla (w.take (i' + 1))) hY h ha
    rw [xup_up] at e2
    exact e2
  rw [e]
  exact kk
end XCON
def wSort : List Int32 := [-1, -1, -1, -1]
def wLaw : List Int32 := [98, 117, 105, 108, 100, 115, 32, 50, 48, 32, 43, 32, 115, 112, 101, 101, 100, 32, 42, 32, 49, 48, 32, 59, 32, 102, 97, 100, 101, 115, 32, 49, 48, 32, 59, 32, 98, 101, 110, 100, 115, 32, 49, 48, 48, 32, 59]
def wWords : List Int32 := [98, 117, 105, 108, 100, 115, 32, 32, 102, 97, 100, 101, 115, 32, 32, 32, 98, 101, 110, 100, 115, 32, 32, 32, 115, 112, 101, 101, 100, 32, 32, 32, 99, 97, 107, 101, 32, 32, 32, 32, 117, 115, 101, 100, 32, 32, 32, 32, 109, 111, 114, 101, 32, 32, 32, 32, 115, 101, 110, 115, 101, 32, 32, 32, 101, 121, 101, 115, 32, 32, 32, 32, 111, 114, 32, 32, 32, 32, 32, 32, 97, 110, 100, 32, 32, 32, 32, 32, 110, 111, 116, 32, 32, 32, 32, 32]
def vMod (G : xG) (j : Nat) : List Value := ([none, some 60, some 61, some 62, some 63, none, some 64, some 65, none, none, none, none, none, some 66, some 67, some 68, some 69, some 70, none, none, none, none, some 71, some 72, none, none, none, some 73, some 74, none, none, none, none, none] : List (Option Nat)).map (fun s => match s with | none => .int 0 | some q => if q < j then .ref (xg G q) else .null)
def iMod (I : xI) : xI := xup (xup (xup (xup (xup (xup (xup (xup (xup (xup (xup (xup (xup (xup (xup (xup (I) 60 (fun _ => 0)) 61 (fun _ => 0)) 62 (fun _ => 0)) 63 (fun _ => 0)) 64 (fun _ => 0)) 65 (fun _ => 0)) 66 (fun _ => 0)) 67 (xla wSort)) 68 (fun _ => 0)) 69 (fun _ => 0)) 70 (xla wLaw)) 71 (xla wWords)) 72 (fun _ => 0)) 73 (fun _ => 0)) 74 (fun _ => 0)) 59 (fun _ => 0)
theorem w_Model_init (l : Launch) (G : xG) {d : Nat} (hd : 1 ≤ d) (I : xI) {Z : List Frame → Array Value → State → State → Prop} (kk : XW l G (xR d 15 2171) y_Model_init b_Model_init 2 none xK0 Z 75 (xm G xYf (iMod I)) 15 2171 987 [(0, .ref (xg G 59))] []) : XW l G (xR d 15 2171) y_Model_init b_Model_init 2 none xK0 Z 60 (mR G 59 5 60 I (vMod G 60)) 0 0 0 [(0, .ref (xg G 59))] [] := by
  refine X_aload_n d_Model_init_0 rfl rfl ?_
  refine X_objInit ml_Model_1 oi_inst oi_code ⟨hd, Nat.le_trans (m := 64) (Nat.le_of_ble_eq_true rfl) (show 64 ≤ 64 * d by omega)⟩ d_Model_init_1 ?_
  refine X_aload_n d_Model_init_4 rfl rfl ?_
  refine X_iconst (v := 5) d_Model_init_5 rfl ?_
  refine N_newI (N' := 5) (fun _ => 0) rfl rfl (by decide) (by decide) rfl (by decide) (Nat.le_of_ble_eq_true rfl) (Nat.le_of_ble_eq_true rfl) d_Model_init_6 ?_
  refine N_put (vs' := vMod G 61) fp_Model_7 rfl rfl rfl (Nat.le_of_ble_eq_true rfl) rfl d_Model_init_8 ?_
  refine X_aload_n d_Model_init_11 rfl rfl ?_
  refine X_iconst (v := 5) d_Model_init_12 rfl ?_
  refine N_newI (N' := 5) (fun _ => 0) rfl rfl (by decide) (by decide) rfl (by decide) (Nat.le_of_ble_eq_true rfl) (Nat.le_of_ble_eq_true rfl) d_Model_init_13 ?_
  refine N_put (vs' := vMod G 62) fp_Model_13 rfl rfl rfl (Nat.le_of_ble_eq_true rfl) rfl d_Model_init_15 ?_
  refine X_aload_n d_Model_init_18 rfl rfl ?_
  refine X_bipush (v := 30) d_Model_init_19 rfl ?_
  refine N_newI (N' := 30) (fun _ => 0) rfl rfl (by decide) (by decide) rfl (by decide) (Nat.le_of_ble_eq_true rfl) (Nat.le_of_ble_eq_true rfl) d_Model_init_21 ?_
  refine N_put (vs' := vMod G 63) fp_Model_16 rfl rfl rfl (Nat.le_of_ble_eq_true rfl) rfl d_Model_init_23 ?_
  refine X_aload_n d_Model_init_26 rfl rfl ?_
  refine X_sipush (v := 160) d_Model_init_27 rfl ?_
  refine N_newI (N' := 160) (fun _ => 0) rfl rfl (by decide) (by decide) rfl (by decide) (Nat.le_of_ble_eq_true rfl) (Nat.le_of_ble_eq_true rfl) d_Model_init_30 ?_
  refine N_put (vs' := vMod G 64) fp_Model_19 rfl rfl rfl (Nat.le_of_ble_eq_true rfl) rfl d_Model_init_32 ?_
  refine X_aload_n d_Model_init_35 rfl rfl ?_
  refine X_sipush (v := 1200) d_Model_init_36 rfl ?_
  refine N_newI (N' := 1200) (fun _ => 0) rfl rfl (by decide) (by decide) rfl (by decide) (Nat.le_of_ble_eq_true rfl) (Nat.le_of_ble_eq_true rfl) d_Model_init_39 ?_
  refine N_put (vs' := vMod G 65) fp_Model_22 rfl rfl rfl (Nat.le_of_ble_eq_true rfl) rfl d_Model_init_41 ?_
  refine X_aload_n d_Model_init_44 rfl rfl ?_
  refine X_bipush (v := 24) d_Model_init_45 rfl ?_
  refine N_newI (N' := 24) (fun _ => 0) rfl rfl (by decide) (by decide) rfl (by decide) (Nat.le_of_ble_eq_true rfl) (Nat.le_of_ble_eq_true rfl) d_Model_init_47 ?_
  refine N_put (vs' := vMod G 66) fp_Model_25 rfl rfl rfl (Nat.le_of_ble_eq_true rfl) rfl d_Model_init_49 ?_
  refine X_aload_n d_Model_init_52 rfl rfl ?_
  refine X_bipush (v := 30) d_Model_init_53 rfl ?_
  refine N_newI (N' := 30) (fun _ => 0) rfl rfl (by decide) (by decide) rfl (by decide) (Nat.le_of_ble_eq_true rfl) (Nat.le_of_ble_eq_true rfl) d_Model_init_55 ?_
  refine N_put (vs' := vMod G 67) fp_Model_28 rfl rfl rfl (Nat.le_of_ble_eq_true rfl) rfl d_Model_init_57 ?_
  refine X_aload_n d_Model_init_60 rfl rfl ?_
  refine X_iconst (v := 4) d_Model_init_61 rfl ?_
  refine N_newI (N' := 4) (xla (wSort.take 0)) rfl rfl (by decide) (by decide) rfl (by decide) (Nat.le_of_ble_eq_true rfl) (Nat.le_of_ble_eq_true rfl) d_Model_init_62 ?_
  refine X_dup d_Model_init_64 rfl ?_
  refine X_iconst (v := 0) d_Model_init_65 rfl ?_
  refine X_iconst (v := (-1)) d_Model_init_66 rfl ?_
  refine N_ast wSort 0 rfl rfl (N := 4) rfl (by decide) (by decide) (vp_in_nI (show 0 < 4 by decide) (by decide)) d_Model_init_67 ?_
  refine X_dup d_Model_init_68 rfl ?_
  refine X_iconst (v := 1) d_Model_init_69 rfl ?_
  refine X_iconst (v := (-1)) d_Model_init_70 rfl ?_
  refine N_ast wSort 1 rfl rfl (N := 4) rfl (by decide) (by decide) (vp_in_nI (show 1 < 4 by decide) (by decide)) d_Model_init_71 ?_
  refine X_dup d_Model_init_72 rfl ?_
  refine X_iconst (v := 2) d_Model_init_73 rfl ?_
  refine X_iconst (v := (-1)) d_Model_init_74 rfl ?_
  refine N_ast wSort 2 rfl rfl (N := 4) rfl (by decide) (by decide) (vp_in_nI (show 2 < 4 by decide) (by decide)) d_Model_init_75 ?_
  refine X_dup d_Model_init_76 rfl ?_
  refine X_iconst (v := 3) d_Model_init_77 rfl ?_
  refine X_iconst (v := (-1)) d_Model_init_78 rfl ?_
  refine N_ast wSort 3 rfl rfl (N := 4) rfl (by decide) (by decide) (vp_in_nI (show 3 < 4 by decide) (by decide)) d_Model_init_79 ?_
  refine N_put (vs' := vMod G 68) fp_Model_31 rfl rfl rfl (Nat.le_of_ble_eq_true rfl) rfl d_Model_init_80 ?_
  refine X_aload_n d_Model_init_83 rfl rfl ?_
  refine X_iconst (v := 4) d_Model_init_84 rfl ?_
  refine N_newI (N' := 4) (fun _ => 0) rfl rfl (by decide) (by decide) rfl (by decide) (Nat.le_of_ble_eq_true rfl) (Nat.le_of_ble_eq_true rfl) d_Model_init_85 ?_
  refine N_put (vs' := vMod G 69) fp_Model_34 rfl rfl rfl (Nat.le_of_ble_eq_true rfl) rfl d_Model_init_87 ?_
  refine X_aload_n d_Model_init_90 rfl rfl ?_
  refine X_sipush (v := 160) d_Model_init_91 rfl ?_
  refine N_newI (N' := 160) (fun _ => 0) rfl rfl (by decide) (by decide) rfl (by decide) (Nat.le_of_ble_eq_true rfl) (Nat.le_of_ble_eq_true rfl) d_Model_init_94 ?_
  refine N_put (vs' := vMod G 70) fp_Model_37 rfl rfl rfl (Nat.le_of_ble_eq_true rfl) rfl d_Model_init_96 ?_
  refine X_aload_n d_Model_init_99 rfl rfl ?_
  refine X_bipush (v := 47) d_Model_init_100 rfl ?_
  refine N_newI (N' := 47) (xla (wLaw.take 0)) rfl rfl (by decide) (by decide) rfl (by decide) (Nat.le_of_ble_eq_true rfl) (Nat.le_of_ble_eq_true rfl) d_Model_init_102 ?_
  refine X_dup d_Model_init_104 rfl ?_
  refine X_iconst (v := 0) d_Model_init_105 rfl ?_
  refine X_bipush (v := 98) d_Model_init_106 rfl ?_
  refine N_ast wLaw 0 rfl rfl (N := 47) rfl (by decide) (by decide) (vp_in_nI (show 0 < 47 by decide) (by decide)) d_Model_init_108 ?_
  refine X_dup d_Model_init_109 rfl ?_
  refine X_iconst (v := 1) d_Model_init_110 rfl ?_
  refine X_bipush (v := 117) d_Model_init_111 rfl ?_
  refine N_ast wLaw 1 rfl rfl (N := 47) rfl (by decide) (by decide) (vp_in_nI (show 1 < 47 by decide) (by decide)) d_Model_init_113 ?_
  refine X_dup d_Model_init_114 rfl ?_
  refine X_iconst (v := 2) d_Model_init_115 rfl ?_
  refine X_bipush (v := 105) d_Model_init_116 rfl ?_
  refine N_ast wLaw 2 rfl rfl (N := 47) rfl (by decide) (by decide) (vp_in_nI (show 2 < 47 by decide) (by decide)) d_Model_init_118 ?_
  refine X_dup d_Model_init_119 rfl ?_
  refine X_iconst (v := 3) d_Model_init_120 rfl ?_
  refine X_bipush (v := 108) d_Model_init_121 rfl ?_
  refine N_ast wLaw 3 rfl rfl (N := 47) rfl (by decide) (by decide) (vp_in_nI (show 3 < 47 by decide) (by decide)) d_Model_init_123 ?_
  refine X_dup d_Model_init_124 rfl ?_
  refine X_iconst (v := 4) d_Model_init_125 rfl ?_
  refine X_bipush (v := 100) d_Model_init_126 rfl ?_
  refine N_ast wLaw 4 rfl rfl (N := 47) rfl (by decide) (by decide) (vp_in_nI (show 4 < 47 by decide) (by decide)) d_Model_init_128 ?_
  refine X_dup d_Model_init_129 rfl ?_
  refine X_iconst (v := 5) d_Model_init_130 rfl ?_
  refine X_bipush (v := 115) d_Model_init_131 rfl ?_
  refine N_ast wLaw 5 rfl rfl (N := 47) rfl (by decide) (by decide) (vp_in_nI (show 5 < 47 by decide) (by decide)) d_Model_init_133 ?_
  refine X_dup d_Model_init_134 rfl ?_
  refine X_bipush (v := 6) d_Model_init_135 rfl ?_
  refine X_bipush (v := 32) d_Model_init_137 rfl ?_
  refine N_ast wLaw 6 rfl rfl (N := 47) rfl (by decide) (by decide) (vp_in_nI (show 6 < 47 by decide) (by decide)) d_Model_init_139 ?_
  refine X_dup d_Model_init_140 rfl ?_
  refine X_bipush (v := 7) d_Model_init_141 rfl ?_
  refine X_bipush (v := 50) d_Model_init_143 rfl ?_
  refine N_ast wLaw 7 rfl rfl (N := 47) rfl (by decide) (by decide) (vp_in_nI (show 7 < 47 by decide) (by decide)) d_Model_init_145 ?_
  refine X_dup d_Model_init_146 rfl ?_
  refine X_bipush (v := 8) d_Model_init_147 rfl ?_
  refine X_bipush (v := 48) d_Model_init_149 rfl ?_
  refine N_ast wLaw 8 rfl rfl (N := 47) rfl (by decide) (by decide) (vp_in_nI (show 8 < 47 by decide) (by decide)) d_Model_init_151 ?_
  refine X_dup d_Model_init_152 rfl ?_
  refine X_bipush (v := 9) d_Model_init_153 rfl ?_
  refine X_bipush (v := 32) d_Model_init_155 rfl ?_
  refine N_ast wLaw 9 rfl rfl (N := 47) rfl (by decide) (by decide) (vp_in_nI (show 9 < 47 by decide) (by decide)) d_Model_init_157 ?_
  refine X_dup d_Model_init_158 rfl ?_
  refine X_bipush (v := 10) d_Model_init_159 rfl ?_
  refine X_bipush (v := 43) d_Model_init_161 rfl ?_
  refine N_ast wLaw 10 rfl rfl (N := 47) rfl (by decide) (by decide) (vp_in_nI (show 10 < 47 by decide) (by decide)) d_Model_init_163 ?_
  refine X_dup d_Model_init_164 rfl ?_
  refine X_bipush (v := 11) d_Model_init_165 rfl ?_
  refine X_bipush (v := 32) d_Model_init_167 rfl ?_
  refine N_ast wLaw 11 rfl rfl (N := 47) rfl (by decide) (by decide) (vp_in_nI (show 11 < 47 by decide) (by decide)) d_Model_init_169 ?_
  refine X_dup d_Model_init_170 rfl ?_
  refine X_bipush (v := 12) d_Model_init_171 rfl ?_
  refine X_bipush (v := 115) d_Model_init_173 rfl ?_
  refine N_ast wLaw 12 rfl rfl (N := 47) rfl (by decide) (by decide) (vp_in_nI (show 12 < 47 by decide) (by decide)) d_Model_init_175 ?_
  refine X_dup d_Model_init_176 rfl ?_
  refine X_bipush (v := 13) d_Model_init_177 rfl ?_
  refine X_bipush (v := 112) d_Model_init_179 rfl ?_
  refine N_ast wLaw 13 rfl rfl (N := 47) rfl (by decide) (by decide) (vp_in_nI (show 13 < 47 by decide) (by decide)) d_Model_init_181 ?_
  refine X_dup d_Model_init_182 rfl ?_
  refine X_bipush (v := 14) d_Model_init_183 rfl ?_
  refine X_bipush (v := 101) d_Model_init_185 rfl ?_
  refine N_ast wLaw 14 rfl rfl (N := 47) rfl (by decide) (by decide) (vp_in_nI (show 14 < 47 by decide) (by decide)) d_Model_init_187 ?_
  refine X_dup d_Model_init_188 rfl ?_
  refine X_bipush (v := 15) d_Model_init_189 rfl ?_
  refine X_bipush (v := 101) d_Model_init_191 rfl ?_
  refine N_ast wLaw 15 rfl rfl (N := 47) rfl (by decide) (by decide) (vp_in_nI (show 15 < 47 by decide) (by decide)) d_Model_init_193 ?_
  refine X_dup d_Model_init_194 rfl ?_
  refine X_bipush (v := 16) d_Model_init_195 rfl ?_
  refine X_bipush (v := 100) d_Model_init_197 rfl ?_
  refine N_ast wLaw 16 rfl rfl (N := 47) rfl (by decide) (by decide) (vp_in_nI (show 16 < 47 by decide) (by decide)) d_Model_init_199 ?_
  refine X_dup d_Model_init_200 rfl ?_
  refine X_bipush (v := 17) d_Model_init_201 rfl ?_
  refine X_bipush (v := 32) d_Model_init_203 rfl ?_
  refine N_ast wLaw 17 rfl rfl (N := 47) rfl (by decide) (by decide) (vp_in_nI (show 17 < 47 by decide) (by decide)) d_Model_init_205 ?_
  refine X_dup d_Model_init_206 rfl ?_
  refine X_bipush (v := 18) d_Model_init_207 rfl ?_
  refine X_bipush (v := 42) d_Model_init_209 rfl ?_
  refine N_ast wLaw 18 rfl rfl (N := 47) rfl (by decide) (by decide) (vp_in_nI (show 18 < 47 by decide) (by decide)) d_Model_init_211 ?_
  refine X_dup d_Model_init_212 rfl ?_
  refine X_bipush (v := 19) d_Model_init_213 rfl ?_
  refine X_bipush (v := 32) d_Model_init_215 rfl ?_
  refine N_ast wLaw 19 rfl rfl (N := 47) rfl (by decide) (by decide) (vp_in_nI (show 19 < 47 by decide) (by decide)) d_Model_init_217 ?_
  refine X_dup d_Model_init_218 rfl ?_
  refine X_bipush (v := 20) d_Model_init_219 rfl ?_
  refine X_bipush (v := 49) d_Model_init_221 rfl ?_
  refine N_ast wLaw 20 rfl rfl (N := 47) rfl (by decide) (by decide) (vp_in_nI (show 20 < 47 by decide) (by decide)) d_Model_init_223 ?_
  refine X_dup d_Model_init_224 rfl ?_
  refine X_bipush (v := 21) d_Model_init_225 rfl ?_
  refine X_bipush (v := 48) d_Model_init_227 rfl ?_
  refine N_ast wLaw 21 rfl rfl (N := 47) rfl (by decide) (by decide) (vp_in_nI (show 21 < 47 by decide) (by decide)) d_Model_init_229 ?_
  refine X_dup d_Model_init_230 rfl ?_
  refine X_bipush (v := 22) d_Model_init_231 rfl ?_
  refine X_bipush (v := 32) d_Model_init_233 rfl ?_
  refine N_ast wLaw 22 rfl rfl (N := 47) rfl (by decide) (by decide) (vp_in_nI (show 22 < 47 by decide) (by decide)) d_Model_init_235 ?_
  refine X_dup d_Model_init_236 rfl ?_
  refine X_bipush (v := 23) d_Model_init_237 rfl ?_
  refine X_bipush (v := 59) d_Model_init_239 rfl ?_
  refine N_ast wLaw 23 rfl rfl (N := 47) rfl (by decide) (by decide) (vp_in_nI (show 23 < 47 by decide) (by decide)) d_Model_init_241 ?_
  refine X_dup d_Model_init_242 rfl ?_
  refine X_bipush (v := 24) d_Model_init_243 rfl ?_
  refine X_bipush (v := 32) d_Model_init_245 rfl ?_
  refine N_ast wLaw 24 rfl rfl (N := 47) rfl (by decide) (by decide) (vp_in_nI (show 24 < 47 by decide) (by decide)) d_Model_init_247 ?_
  refine X_dup d_Model_init_248 rfl ?_
  refine X_bipush (v := 25) d_Model_init_249 rfl ?_
  refine X_bipush (v := 102) d_Model_init_251 rfl ?_
  refine N_ast wLaw 25 rfl rfl (N := 47) rfl (by decide) (by decide) (vp_in_nI (show 25 < 47 by decide) (by decide)) d_Model_init_253 ?_
  refine X_dup d_Model_init_254 rfl ?_
  refine X_bipush (v := 26) d_Model_init_255 rfl ?_
  refine X_bipush (v := 97) d_Model_init_257 rfl ?_
  refine N_ast wLaw 26 rfl rfl (N := 47) rfl (by decide) (by decide) (vp_in_nI (show 26 < 47 by decide) (by decide)) d_Model_init_259 ?_
  refine X_dup d_Model_init_260 rfl ?_
  refine X_bipush (v := 27) d_Model_init_261 rfl ?_
  refine X_bipush (v := 100) d_Model_init_263 rfl ?_
  refine N_ast wLaw 27 rfl rfl (N := 47) rfl (by decide) (by decide) (vp_in_nI (show 27 < 47 by decide) (by decide)) d_Model_init_265 ?_
  refine X_dup d_Model_init_266 rfl ?_
  refine X_bipush (v := 28) d_Model_init_267 rfl ?_
  refine X_bipush (v := 101) d_Model_init_269 rfl ?_
  refine N_ast wLaw 28 rfl rfl (N := 47) rfl (by decide) (by decide) (vp_in_nI (show 28 < 47 by decide) (by decide)) d_Model_init_271 ?_
  refine X_dup d_Model_init_272 rfl ?_
  refine X_bipush (v := 29) d_Model_init_273 rfl ?_
  refine X_bipush (v := 115) d_Model_init_275 rfl ?_
  refine N_ast wLaw 29 rfl rfl (N := 47) rfl (by decide) (by decide) (vp_in_nI (show 29 < 47 by decide) (by decide)) d_Model_init_277 ?_
  refine X_dup d_Model_init_278 rfl ?_
  refine X_bipush (v := 30) d_Model_init_279 rfl ?_
  refine X_bipush (v := 32) d_Model_init_281 rfl ?_
  refine N_ast wLaw 30 rfl rfl (N := 47) rfl (by decide) (by decide) (vp_in_nI (show 30 < 47 by decide) (by decide)) d_Model_init_283 ?_
  refine X_dup d_Model_init_284 rfl ?_
  refine X_bipush (v := 31) d_Model_init_285 rfl ?_
  refine X_bipush (v := 49) d_Model_init_287 rfl ?_
  refine N_ast wLaw 31 rfl rfl (N := 47) rfl (by decide) (by decide) (vp_in_nI (show 31 < 47 by decide) (by decide)) d_Model_init_289 ?_
  refine X_dup d_Model_init_290 rfl ?_
  refine X_bipush (v := 32) d_Model_init_291 rfl ?_
  refine X_bipush (v := 48) d_Model_init_293 rfl ?_
  refine N_ast wLaw 32 rfl rfl (N := 47) rfl (by decide) (by decide) (vp_in_nI (show 32 < 47 by decide) (by decide)) d_Model_init_295 ?_
  refine X_dup d_Model_init_296 rfl ?_
  refine X_bipush (v := 33) d_Model_init_297 rfl ?_
  refine X_bipush (v := 32) d_Model_init_299 rfl ?_
  refine N_ast wLaw 33 rfl rfl (N := 47) rfl (by decide) (by decide) (vp_in_nI (show 33 < 47 by decide) (by decide)) d_Model_init_301 ?_
  refine X_dup d_Model_init_302 rfl ?_
  refine X_bipush (v := 34) d_Model_init_303 rfl ?_
  refine X_bipush (v := 59) d_Model_init_305 rfl ?_
  refine N_ast wLaw 34 rfl rfl (N := 47) rfl (by decide) (by decide) (vp_in_nI (show 34 < 47 by decide) (by decide)) d_Model_init_307 ?_
  refine X_dup d_Model_init_308 rfl ?_
  refine X_bipush (v := 35) d_Model_init_309 rfl ?_
  refine X_bipush (v := 32) d_Model_init_311 rfl ?_
  refine N_ast wLaw 35 rfl rfl (N := 47) rfl (by decide) (by decide) (vp_in_nI (show 35 < 47 by decide) (by decide)) d_Model_init_313 ?_
  refine X_dup d_Model_init_314 rfl ?_
  refine X_bipush (v := 36) d_Model_init_315 rfl ?_
  refine X_bipush (v := 98) d_Model_init_317 rfl ?_
  refine N_ast wLaw 36 rfl rfl (N := 47) rfl (by decide) (by decide) (vp_in_nI (show 36 < 47 by decide) (by decide)) d_Model_init_319 ?_
  refine X_dup d_Model_init_320 rfl ?_
  refine X_bipush (v := 37) d_Model_init_321 rfl ?_
  refine X_bipush (v := 101) d_Model_init_323 rfl ?_
  refine N_ast wLaw 37 rfl rfl (N := 47) rfl (by decide) (by decide) (vp_in_nI (show 37 < 47 by decide) (by decide)) d_Model_init_325 ?_
  refine X_dup d_Model_init_326 rfl ?_
  refine X_bipush (v := 38) d_Model_init_327 rfl ?_
  refine X_bipush (v := 110) d_Model_init_329 rfl ?_
  refine N_ast wLaw 38 rfl rfl (N := 47) rfl (by decide) (by decide) (vp_in_nI (show 38 < 47 by decide) (by decide)) d_Model_init_331 ?_
  refine X_dup d_Model_init_332 rfl ?_
  refine X_bipush (v := 39) d_Model_init_333 rfl ?_
  refine X_bipush (v := 100) d_Model_init_335 rfl ?_
  refine N_ast wLaw 39 rfl rfl (N := 47) rfl (by decide) (by decide) (vp_in_nI (show 39 < 47 by decide) (by decide)) d_Model_init_337 ?_
  refine X_dup d_Model_init_338 rfl ?_
  refine X_bipush (v := 40) d_Model_init_339 rfl ?_
  refine X_bipush (v := 115) d_Model_init_341 rfl ?_
  refine N_ast wLaw 40 rfl rfl (N := 47) rfl (by decide) (by decide) (vp_in_nI (show 40 < 47 by decide) (by decide)) d_Model_init_343 ?_
  refine X_dup d_Model_init_344 rfl ?_
  refine X_bipush (v := 41) d_Model_init_345 rfl ?_
  refine X_bipush (v := 32) d_Model_init_347 rfl ?_
  refine N_ast wLaw 41 rfl rfl (N := 47) rfl (by decide) (by decide) (vp_in_nI (show 41 < 47 by decide) (by decide)) d_Model_init_349 ?_
  refine X_dup d_Model_init_350 rfl ?_
  refine X_bipush (v := 42) d_Model_init_351 rfl ?_
  refine X_bipush (v := 49) d_Model_init_353 rfl ?_
  refine N_ast wLaw 42 rfl rfl (N := 47) rfl (by decide) (by decide) (vp_in_nI (show 42 < 47 by decide) (by decide)) d_Model_init_355 ?_
  refine X_dup d_Model_init_356 rfl ?_
  refine X_bipush (v := 43) d_Model_init_357 rfl ?_
  refine X_bipush (v := 48) d_Model_init_359 rfl ?_
  refine N_ast wLaw 43 rfl rfl (N := 47) rfl (by decide) (by decide) (vp_in_nI (show 43 < 47 by decide) (by decide)) d_Model_init_361 ?_
  refine X_dup d_Model_init_362 rfl ?_
  refine X_bipush (v := 44) d_Model_init_363 rfl ?_
  refine X_bipush (v := 48) d_Model_init_365 rfl ?_
  refine N_ast wLaw 44 rfl rfl (N := 47) rfl (by decide) (by decide) (vp_in_nI (show 44 < 47 by decide) (by decide)) d_Model_init_367 ?_
  refine X_dup d_Model_init_368 rfl ?_
  refine X_bipush (v := 45) d_Model_init_369 rfl ?_
  refine X_bipush (v := 32) d_Model_init_371 rfl ?_
  refine N_ast wLaw 45 rfl rfl (N := 47) rfl (by decide) (by decide) (vp_in_nI (show 45 < 47 by decide) (by decide)) d_Model_init_373 ?_
  refine X_dup d_Model_init_374 rfl ?_
  refine X_bipush (v := 46) d_Model_init_375 rfl ?_
  refine X_bipush (v := 59) d_Model_init_377 rfl ?_
  refine N_ast wLaw 46 rfl rfl (N := 47) rfl (by decide) (by decide) (vp_in_nI (show 46 < 47 by decide) (by decide)) d_Model_init_379 ?_
  refine N_put (vs' := vMod G 71) fp_Model_40 rfl rfl rfl (Nat.le_of_ble_eq_true rfl) rfl d_Model_init_380 ?_
  refine X_aload_n d_Model_init_383 rfl rfl ?_
  refine X_bipush (v := 96) d_Model_init_384 rfl ?_
  refine N_newI (N' := 96) (xla (wWords.take 0)) rfl rfl (by decide) (by decide) rfl (by decide) (Nat.le_of_ble_eq_true rfl) (Nat.le_of_ble_eq_true rfl) d_Model_init_386 ?_
  refine X_dup d_Model_init_388 rfl ?_
  refine X_iconst (v := 0) d_Model_init_389 rfl ?_
  refine X_bipush (v := 98) d_Model_init_390 rfl ?_
  refine N_ast wWords 0 rfl rfl (N := 96) rfl (by decide) (by decide) (vp_in_nI (show 0 < 96 by decide) (by decide)) d_Model_init_392 ?_
  refine X_dup d_Model_init_393 rfl ?_
  refine X_iconst (v := 1) d_Model_init_394 rfl ?_
  refine X_bipush (v := 117) d_Model_init_395 rfl ?_
  refine N_ast wWords 1 rfl rfl (N := 96) rfl (by decide) (by decide) (vp_in_nI (show 1 < 96 by decide) (by decide)) d_Model_init_397 ?_
  refine X_dup d_Model_init_398 rfl ?_
  refine X_iconst (v := 2) d_Model_init_399 rfl ?_
  refine X_bipush (v := 105) d_Model_init_400 rfl ?_
  refine N_ast wWords 2 rfl rfl (N := 96) rfl (by decide) (by decide) (vp_in_nI (show 2 < 96 by decide) (by decide)) d_Model_init_402 ?_
  refine X_dup d_Model_init_403 rfl ?_
  refine X_iconst (v := 3) d_Model_init_404 rfl ?_
  refine X_bipush (v := 108) d_Model_init_405 rfl ?_
  refine N_ast wWords 3 rfl rfl (N := 96) rfl (by decide) (by decide) (vp_in_nI (show 3 < 96 by decide) (by decide)) d_Model_init_407 ?_
  refine X_dup d_Model_init_408 rfl ?_
  refine X_iconst (v := 4) d_Model_init_409 rfl ?_
  refine X_bipush (v := 100) d_Model_init_410 rfl ?_
  refine N_ast wWords 4 rfl rfl (N := 96) rfl (by decide) (by decide) (vp_in_nI (show 4 < 96 by decide) (by decide)) d_Model_init_412 ?_
  refine X_dup d_Model_init_413 rfl ?_
  refine X_iconst (v := 5) d_Model_init_414 rfl ?_
  refine X_bipush (v := 115) d_Model_init_415 rfl ?_
  refine N_ast wWords 5 rfl rfl (N := 96) rfl (by decide) (by decide) (vp_in_nI (show 5 < 96 by decide) (by decide)) d_Model_init_417 ?_
  refine X_dup d_Model_init_418 rfl ?_
  refine X_bipush (v := 6) d_Model_init_419 rfl ?_
  refine X_bipush (v := 32) d_Model_init_421 rfl ?_
  refine N_ast wWords 6 rfl rfl (N := 96) rfl (by decide) (by decide) (vp_in_nI (show 6 < 96 by decide) (by decide)) d_Model_init_423 ?_
  refine X_dup d_Model_init_424 rfl ?_
  refine X_bipush (v := 7) d_Model_init_425 rfl ?_
  refine X_bipush (v := 32) d_Model_init_427 rfl ?_
  refine N_ast wWords 7 rfl rfl (N := 96) rfl (by decide) (by decide) (vp_in_nI (show 7 < 96 by decide) (by decide)) d_Model_init_429 ?_
  refine X_dup d_Model_init_430 rfl ?_
  refine X_bipush (v := 8) d_Model_init_431 rfl ?_
  refine X_bipush (v := 102) d_Model_init_433 rfl ?_
  refine N_ast wWords 8 rfl rfl (N := 96) rfl (by decide) (by decide) (vp_in_nI (show 8 < 96 by decide) (by decide)) d_Model_init_435 ?_
  refine X_dup d_Model_init_436 rfl ?_
  refine X_bipush (v := 9) d_Model_init_437 rfl ?_
  refine X_bipush (v := 97) d_Model_init_439 rfl ?_
  refine N_ast wWords 9 rfl rfl (N := 96) rfl (by decide) (by decide) (vp_in_nI (show 9 < 96 by decide) (by decide)) d_Model_init_441 ?_
  refine X_dup d_Model_init_442 rfl ?_
  refine X_bipush (v := 10) d_Model_init_443 rfl ?_
  refine X_bipush (v := 100) d_Model_init_445 rfl ?_
  refine N_ast wWords 10 rfl rfl (N := 96) rfl (by decide) (by decide) (vp_in_nI (show 10 < 96 by decide) (by decide)) d_Model_init_447 ?_
  refine X_dup d_Model_init_448 rfl ?_
  refine X_bipush (v := 11) d_Model_init_449 rfl ?_
  refine X_bipush (v := 101) d_Model_init_451 rfl ?_
  refine N_ast wWords 11 rfl rfl (N := 96) rfl (by decide) (by decide) (vp_in_nI (show 11 < 96 by decide) (by decide)) d_Model_init_453 ?_
  refine X_dup d_Model_init_454 rfl ?_
  refine X_bipush (v := 12) d_Model_init_455 rfl ?_
  refine X_bipush (v := 115) d_Model_init_457 rfl ?_
  refine N_ast wWords 12 rfl rfl (N := 96) rfl (by decide) (by decide) (vp_in_nI (show 12 < 96 by decide) (by decide)) d_Model_init_459 ?_
  refine X_dup d_Model_init_460 rfl ?_
  refine X_bipush (v := 13) d_Model_init_461 rfl ?_
  refine X_bipush (v := 32) d_Model_init_463 rfl ?_
  refine N_ast wWords 13 rfl rfl (N := 96) rfl (by decide) (by decide) (vp_in_nI (show 13 < 96 by decide) (by decide)) d_Model_init_465 ?_
  refine X_dup d_Model_init_466 rfl ?_
  refine X_bipush (v := 14) d_Model_init_467 rfl ?_
  refine X_bipush (v := 32) d_Model_init_469 rfl ?_
  refine N_ast wWords 14 rfl rfl (N := 96) rfl (by decide) (by decide) (vp_in_nI (show 14 < 96 by decide) (by decide)) d_Model_init_471 ?_
  refine X_dup d_Model_init_472 rfl ?_
  refine X_bipush (v := 15) d_Model_init_473 rfl ?_
  refine X_bipush (v := 32) d_Model_init_475 rfl ?_
  refine N_ast wWords 15 rfl rfl (N := 96) rfl (by decide) (by decide) (vp_in_nI (show 15 < 96 by decide) (by decide)) d_Model_init_477 ?_
  refine X_dup d_Model_init_478 rfl ?_
  refine X_bipush (v := 16) d_Model_init_479 rfl ?_
  refine X_bipush (v := 98) d_Model_init_481 rfl ?_
  refine N_ast wWords 16 rfl rfl (N := 96) rfl (by decide) (by decide) (vp_in_nI (show 16 < 96 by decide) (by decide)) d_Model_init_483 ?_
  refine X_dup d_Model_init_484 rfl ?_
  refine X_bipush (v := 17) d_Model_init_485 rfl ?_
  refine X_bipush (v := 101) d_Model_init_487 rfl ?_
  refine N_ast wWords 17 rfl rfl (N := 96) rfl (by decide) (by decide) (vp_in_nI (show 17 < 96 by decide) (by decide)) d_Model_init_489 ?_
  refine X_dup d_Model_init_490 rfl ?_
  refine X_bipush (v := 18) d_Model_init_491 rfl ?_
  refine X_bipush (v := 110) d_Model_init_493 rfl ?_
  refine N_ast wWords 18 rfl rfl (N := 96) rfl (by decide) (by decide) (vp_in_nI (show 18 < 96 by decide) (by decide)) d_Model_init_495 ?_
  refine X_dup d_Model_init_496 rfl ?_
  refine X_bipush (v := 19) d_Model_init_497 rfl ?_
  refine X_bipush (v := 100) d_Model_init_499 rfl ?_
  refine N_ast wWords 19 rfl rfl (N := 96) rfl (by decide) (by decide) (vp_in_nI (show 19 < 96 by decide) (by decide)) d_Model_init_501 ?_
  refine X_dup d_Model_init_502 rfl ?_
  refine X_bipush (v := 20) d_Model_init_503 rfl ?_
  refine X_bipush (v := 115) d_Model_init_505 rfl ?_
  refine N_ast wWords 20 rfl rfl (N := 96) rfl (by decide) (by decide) (vp_in_nI (show 20 < 96 by decide) (by decide)) d_Model_init_507 ?_
  refine X_dup d_Model_init_508 rfl ?_
  refine X_bipush (v := 21) d_Model_init_509 rfl ?_
  refine X_bipush (v := 32) d_Model_init_511 rfl ?_
  refine N_ast wWords 21 rfl rfl (N := 96) rfl (by decide) (by decide) (vp_in_nI (show 21 < 96 by decide) (by decide)) d_Model_init_513 ?_
  refine X_dup d_Model_init_514 rfl ?_
  refine X_bipush (v := 22) d_Model_init_515 rfl ?_
  refine X_bipush (v := 32) d_Model_init_517 rfl ?_
  refine N_ast wWords 22 rfl rfl (N := 96) rfl (by decide) (by decide) (vp_in_nI (show 22 < 96 by decide) (by decide)) d_Model_init_519 ?_
  refine X_dup d_Model_init_520 rfl ?_
  refine X_bipush (v := 23) d_Model_init_521 rfl ?_
  refine X_bipush (v := 32) d_Model_init_523 rfl ?_
  refine N_ast wWords 23 rfl rfl (N := 96) rfl (by decide) (by decide) (vp_in_nI (show 23 < 96 by decide) (by decide)) d_Model_init_525 ?_
  refine X_dup d_Model_init_526 rfl ?_
  refine X_bipush (v := 24) d_Model_init_527 rfl ?_
  refine X_bipush (v := 115) d_Model_init_529 rfl ?_
  refine N_ast wWords 24 rfl rfl (N := 96) rfl (by decide) (by decide) (vp_in_nI (show 24 < 96 by decide) (by decide)) d_Model_init_531 ?_
  refine X_dup d_Model_init_532 rfl ?_
  refine X_bipush (v := 25) d_Model_init_533 rfl ?_
  refine X_bipush (v := 112) d_Model_init_535 rfl ?_
  refine N_ast wWords 25 rfl rfl (N := 96) rfl (by decide) (by decide) (vp_in_nI (show 25 < 96 by decide) (by decide)) d_Model_init_537 ?_
  refine X_dup d_Model_init_538 rfl ?_
  refine X_bipush (v := 26) d_Model_init_539 rfl ?_
  refine X_bipush (v := 101) d_Model_init_541 rfl ?_
  refine N_ast wWords 26 rfl rfl (N := 96) rfl (by decide) (by decide) (vp_in_nI (show 26 < 96 by decide) (by decide)) d_Model_init_543 ?_
  refine X_dup d_Model_init_544 rfl ?_
  refine X_bipush (v := 27) d_Model_init_545 rfl ?_
  refine X_bipush (v := 101) d_Model_init_547 rfl ?_
  refine N_ast wWords 27 rfl rfl (N := 96) rfl (by decide) (by decide) (vp_in_nI (show 27 < 96 by decide) (by decide)) d_Model_init_549 ?_
  refine X_dup d_Model_init_550 rfl ?_
  refine X_bipush (v := 28) d_Model_init_551 rfl ?_
  refine X_bipush (v := 100) d_Model_init_553 rfl ?_
  refine N_ast wWords 28 rfl rfl (N := 96) rfl (by decide) (by decide) (vp_in_nI (show 28 < 96 by decide) (by decide)) d_Model_init_555 ?_
  refine X_dup d_Model_init_556 rfl ?_
  refine X_bipush (v := 29) d_Model_init_557 rfl ?_
  refine X_bipush (v := 32) d_Model_init_559 rfl ?_
  refine N_ast wWords 29 rfl rfl (N := 96) rfl (by decide) (by decide) (vp_in_nI (show 29 < 96 by decide) (by decide)) d_Model_init_561 ?_
  refine X_dup d_Model_init_562 rfl ?_
  refine X_bipush (v := 30) d_Model_init_563 rfl ?_
  refine X_bipush (v := 32) d_Model_init_565 rfl ?_
  refine N_ast wWords 30 rfl rfl (N := 96) rfl (by decide) (by decide) (vp_in_nI (show 30 < 96 by decide) (by decide)) d_Model_init_567 ?_
  refine X_dup d_Model_init_568 rfl ?_
  refine X_bipush (v := 31) d_Model_init_569 rfl ?_
  refine X_bipush (v := 32) d_Model_init_571 rfl ?_
  refine N_ast wWords 31 rfl rfl (N := 96) rfl (by decide) (by decide) (vp_in_nI (show 31 < 96 by decide) (by decide)) d_Model_init_573 ?_
  refine X_dup d_Model_init_574 rfl ?_
  refine X_bipush (v := 32) d_Model_init_575 rfl ?_
  refine X_bipush (v := 99) d_Model_init_577 rfl ?_
  refine N_ast wWords 32 rfl rfl (N := 96) rfl (by decide) (by decide) (vp_in_nI (show 32 < 96 by decide) (by decide)) d_Model_init_579 ?_
  refine X_dup d_Model_init_580 rfl ?_
  refine X_bipush (v := 33) d_Model_init_581 rfl ?_
  refine X_bipush (v := 97) d_Model_init_583 rfl ?_
  refine N_ast wWords 33 rfl rfl (N := 96) rfl (by decide) (by decide) (vp_in_nI (show 33 < 96 by decide) (by decide)) d_Model_init_585 ?_
  refine X_dup d_Model_init_586 rfl ?_
  refine X_bipush (v := 34) d_Model_init_587 rfl ?_
  refine X_bipush (v := 107) d_Model_init_589 rfl ?_
  refine N_ast wWords 34 rfl rfl (N := 96) rfl (by decide) (by decide) (vp_in_nI (show 34 < 96 by decide) (by decide)) d_Model_init_591 ?_
  refine X_dup d_Model_init_592 rfl ?_
  refine X_bipush (v := 35) d_Model_init_593 rfl ?_
  refine X_bipush (v := 101) d_Model_init_595 rfl ?_
  refine N_ast wWords 35 rfl rfl (N := 96) rfl (by decide) (by decide) (vp_in_nI (show 35 < 96 by decide) (by decide)) d_Model_init_597 ?_
  refine X_dup d_Model_init_598 rfl ?_
  refine X_bipush (v := 36) d_Model_init_599 rfl ?_
  refine X_bipush (v := 32) d_Model_init_601 rfl ?_
  refine N_ast wWords 36 rfl rfl (N := 96) rfl (by decide) (by decide) (vp_in_nI (show 36 < 96 by decide) (by decide)) d_Model_init_603 ?_
  refine X_dup d_Model_init_604 rfl ?_
  refine X_bipush (v := 37) d_Model_init_605 rfl ?_
  refine X_bipush (v := 32) d_Model_init_607 rfl ?_
  refine N_ast wWords 37 rfl rfl (N := 96) rfl (by decide) (by decide) (vp_in_nI (show 37 < 96 by decide) (by decide)) d_Model_init_609 ?_
  refine X_dup d_Model_init_610 rfl ?_
  refine X_bipush (v := 38) d_Model_init_611 rfl ?_
  refine X_bipush (v := 32) d_Model_init_613 rfl ?_
  refine N_ast wWords 38 rfl rfl (N := 96) rfl (by decide) (by decide) (vp_in_nI (show 38 < 96 by decide) (by decide)) d_Model_init_615 ?_
  refine X_dup d_Model_init_616 rfl ?_
  refine X_bipush (v := 39) d_Model_init_617 rfl ?_
  refine X_bipush (v := 32) d_Model_init_619 rfl ?_
  refine N_ast wWords 39 rfl rfl (N := 96) rfl (by decide) (by decide) (vp_in_nI (show 39 < 96 by decide) (by decide)) d_Model_init_621 ?_
  refine X_dup d_Model_init_622 rfl ?_
  refine X_bipush (v := 40) d_Model_init_623 rfl ?_
  refine X_bipush (v := 117) d_Model_init_625 rfl ?_
  refine N_ast wWords 40 rfl rfl (N := 96) rfl (by decide) (by decide) (vp_in_nI (show 40 < 96 by decide) (by decide)) d_Model_init_627 ?_
  refine X_dup d_Model_init_628 rfl ?_
  refine X_bipush (v := 41) d_Model_init_629 rfl ?_
  refine X_bipush (v := 115) d_Model_init_631 rfl ?_
  refine N_ast wWords 41 rfl rfl (N := 96) rfl (by decide) (by decide) (vp_in_nI (show 41 < 96 by decide) (by decide)) d_Model_init_633 ?_
  refine X_dup d_Model_init_634 rfl ?_
  refine X_bipush (v := 42) d_Model_init_635 rfl ?_
  refine X_bipush (v := 101) d_Model_init_637 rfl ?_
  refine N_ast wWords 42 rfl rfl (N := 96) rfl (by decide) (by decide) (vp_in_nI (show 42 < 96 by decide) (by decide)) d_Model_init_639 ?_
  refine X_dup d_Model_init_640 rfl ?_
  refine X_bipush (v := 43) d_Model_init_641 rfl ?_
  refine X_bipush (v := 100) d_Model_init_643 rfl ?_
  refine N_ast wWords 43 rfl rfl (N := 96) rfl (by decide) (by decide) (vp_in_nI (show 43 < 96 by decide) (by decide)) d_Model_init_645 ?_
  refine X_dup d_Model_init_646 rfl ?_
  refine X_bipush (v := 44) d_Model_init_647 rfl ?_
  refine X_bipush (v := 32) d_Model_init_649 rfl ?_
  refine N_ast wWords 44 rfl rfl (N := 96) rfl (by decide) (by decide) (vp_in_nI (show 44 < 96 by decide) (by decide)) d_Model_init_651 ?_
  refine X_dup d_Model_init_652 rfl ?_
  refine X_bipush (v := 45) d_Model_init_653 rfl ?_
  refine X_bipush (v := 32) d_Model_init_655 rfl ?_
  refine N_ast wWords 45 rfl rfl (N := 96) rfl (by decide) (by decide) (vp_in_nI (show 45 < 96 by decide) (by decide)) d_Model_init_657 ?_
  refine X_dup d_Model_init_658 rfl ?_
  refine X_bipush (v := 46) d_Model_init_659 rfl ?_
  refine X_bipush (v := 32) d_Model_init_661 rfl ?_
  refine N_ast wWords 46 rfl rfl (N := 96) rfl (by decide) (by decide) (vp_in_nI (show 46 < 96 by decide) (by decide)) d_Model_init_663 ?_
  refine X_dup d_Model_init_664 rfl ?_
  refine X_bipush (v := 47) d_Model_init_665 rfl ?_
  refine X_bipush (v := 32) d_Model_init_667 rfl ?_
  refine N_ast wWords 47 rfl rfl (N := 96) rfl (by decide) (by decide) (vp_in_nI (show 47 < 96 by decide) (by decide)) d_Model_init_669 ?_
  refine X_dup d_Model_init_670 rfl ?_
  refine X_bipush (v := 48) d_Model_init_671 rfl ?_
  refine X_bipush (v := 109) d_Model_init_673 rfl ?_
  refine N_ast wWords 48 rfl rfl (N := 96) rfl (by decide) (by decide) (vp_in_nI (show 48 < 96 by decide) (by decide)) d_Model_init_675 ?_
  refine X_dup d_Model_init_676 rfl ?_
  refine X_bipush (v := 49) d_Model_init_677 rfl ?_
  refine X_bipush (v := 111) d_Model_init_679 rfl ?_
  refine N_ast wWords 49 rfl rfl (N := 96) rfl (by decide) (by decide) (vp_in_nI (show 49 < 96 by decide) (by decide)) d_Model_init_681 ?_
  refine X_dup d_Model_init_682 rfl ?_
  refine X_bipush (v := 50) d_Model_init_683 rfl ?_
  refine X_bipush (v := 114) d_Model_init_685 rfl ?_
  refine N_ast wWords 50 rfl rfl (N := 96) rfl (by decide) (by decide) (vp_in_nI (show 50 < 96 by decide) (by decide)) d_Model_init_687 ?_
  refine X_dup d_Model_init_688 rfl ?_
  refine X_bipush (v := 51) d_Model_init_689 rfl ?_
  refine X_bipush (v := 101) d_Model_init_691 rfl ?_
  refine N_ast wWords 51 rfl rfl (N := 96) rfl (by decide) (by decide) (vp_in_nI (show 51 < 96 by decide) (by decide)) d_Model_init_693 ?_
  refine X_dup d_Model_init_694 rfl ?_
  refine X_bipush (v := 52) d_Model_init_695 rfl ?_
  refine X_bipush (v := 32) d_Model_init_697 rfl ?_
  refine N_ast wWords 52 rfl rfl (N := 96) rfl (by decide) (by decide) (vp_in_nI (show 52 < 96 by decide) (by decide)) d_Model_init_699 ?_
  refine X_dup d_Model_init_700 rfl ?_
  refine X_bipush (v := 53) d_Model_init_701 rfl ?_
  refine X_bipush (v := 32) d_Model_init_703 rfl ?_
  refine N_ast wWords 53 rfl rfl (N := 96) rfl (by decide) (by decide) (vp_in_nI (show 53 < 96 by decide) (by decide)) d_Model_init_705 ?_
  refine X_dup d_Model_init_706 rfl ?_
  refine X_bipush (v := 54) d_Model_init_707 rfl ?_
  refine X_bipush (v := 32) d_Model_init_709 rfl ?_
  refine N_ast wWords 54 rfl rfl (N := 96) rfl (by decide) (by decide) (vp_in_nI (show 54 < 96 by decide) (by decide)) d_Model_init_711 ?_
  refine X_dup d_Model_init_712 rfl ?_
  refine X_bipush (v := 55) d_Model_init_713 rfl ?_
  refine X_bipush (v := 32) d_Model_init_715 rfl ?_
  refine N_ast wWords 55 rfl rfl (N := 96) rfl (by decide) (by decide) (vp_in_nI (show 55 < 96 by decide) (by decide)) d_Model_init_717 ?_
  refine X_dup d_Model_init_718 rfl ?_
  refine X_bipush (v := 56) d_Model_init_719 rfl ?_
  refine X_bipush (v := 115) d_Model_init_721 rfl ?_
  refine N_ast wWords 56 rfl rfl (N := 96) rfl (by decide) (by decide) (vp_in_nI (show 56 < 96 by decide) (by decide)) d_Model_init_723 ?_
  refine X_dup d_Model_init_724 rfl ?_
  refine X_bipush (v := 57) d_Model_init_725 rfl ?_
  refine X_bipush (v := 101) d_Model_init_727 rfl ?_
  refine N_ast wWords 57 rfl rfl (N := 96) rfl (by decide) (by decide) (vp_in_nI (show 57 < 96 by decide) (by decide)) d_Model_init_729 ?_
  refine X_dup d_Model_init_730 rfl ?_
  refine X_bipush (v := 58) d_Model_init_731 rfl ?_
  refine X_bipush (v := 110) d_Model_init_733 rfl ?_
  refine N_ast wWords 58 rfl rfl (N := 96) rfl (by decide) (by decide) (vp_in_nI (show 58 < 96 by decide) (by decide)) d_Model_init_735 ?_
  refine X_dup d_Model_init_736 rfl ?_
  refine X_bipush (v := 59) d_Model_init_737 rfl ?_
  refine X_bipush (v := 115) d_Model_init_739 rfl ?_
  refine N_ast wWords 59 rfl rfl (N := 96) rfl (by decide) (by decide) (vp_in_nI (show 59 < 96 by decide) (by decide)) d_Model_init_741 ?_
  refine X_dup d_Model_init_742 rfl ?_
  refine X_bipush (v := 60) d_Model_init_743 rfl ?_
  refine X_bipush (v := 101) d_Model_init_745 rfl ?_
  refine N_ast wWords 60 rfl rfl (N := 96) rfl (by decide) (by decide) (vp_in_nI (show 60 < 96 by decide) (by decide)) d_Model_init_747 ?_
  refine X_dup d_Model_init_748 rfl ?_
  refine X_bipush (v := 61) d_Model_init_749 rfl ?_
  refine X_bipush (v := 32) d_Model_init_751 rfl ?_
  refine N_ast wWords 61 rfl rfl (N := 96) rfl (by decide) (by decide) (vp_in_nI (show 61 < 96 by decide) (by decide)) d_Model_init_753 ?_
  refine X_dup d_Model_init_754 rfl ?_
  refine X_bipush (v := 62) d_Model_init_755 rfl ?_
  refine X_bipush (v := 32) d_Model_init_757 rfl ?_
  refine N_ast wWords 62 rfl rfl (N := 96) rfl (by decide) (by decide) (vp_in_nI (show 62 < 96 by decide) (by decide)) d_Model_init_759 ?_
  refine X_dup d_Model_init_760 rfl ?_
  refine X_bipush (v := 63) d_Model_init_761 rfl ?_
  refine X_bipush (v := 32) d_Model_init_763 rfl ?_
  refine N_ast wWords 63 rfl rfl (N := 96) rfl (by decide) (by decide) (vp_in_nI (show 63 < 96 by decide) (by decide)) d_Model_init_765 ?_
  refine X_dup d_Model_init_766 rfl ?_
  refine X_bipush (v := 64) d_Model_init_767 rfl ?_
  refine X_bipush (v := 101) d_Model_init_769 rfl ?_
  refine N_ast wWords 64 rfl rfl (N := 96) rfl (by decide) (by decide) (vp_in_nI (show 64 < 96 by decide) (by decide)) d_Model_init_771 ?_
  refine X_dup d_Model_init_772 rfl ?_
  refine X_bipush (v := 65) d_Model_init_773 rfl ?_
  refine X_bipush (v := 121) d_Model_init_775 rfl ?_
  refine N_ast wWords 65 rfl rfl (N := 96) rfl (by decide) (by decide) (vp_in_nI (show 65 < 96 by decide) (by decide)) d_Model_init_777 ?_
  refine X_dup d_Model_init_778 rfl ?_
  refine X_bipush (v := 66) d_Model_init_779 rfl ?_
  refine X_bipush (v := 101) d_Model_init_781 rfl ?_
  refine N_ast wWords 66 rfl rfl (N := 96) rfl (by decide) (by decide) (vp_in_nI (show 66 < 96 by decide) (by decide)) d_Model_init_783 ?_
  refine X_dup d_Model_init_784 rfl ?_
  refine X_bipush (v := 67) d_Model_init_785 rfl ?_
  refine X_bipush (v := 115) d_Model_init_787 rfl ?_
  refine N_ast wWords 67 rfl rfl (N := 96) rfl (by decide) (by decide) (vp_in_nI (show 67 < 96 by decide) (by decide)) d_Model_init_789 ?_
  refine X_dup d_Model_init_790 rfl ?_
  refine X_bipush (v := 68) d_Model_init_791 rfl ?_
  refine X_bipush (v := 32) d_Model_init_793 rfl ?_
  refine N_ast wWords 68 rfl rfl (N := 96) rfl (by decide) (by decide) (vp_in_nI (show 68 < 96 by decide) (by decide)) d_Model_init_795 ?_
  refine X_dup d_Model_init_796 rfl ?_
  refine X_bipush (v := 69) d_Model_init_797 rfl ?_
  refine X_bipush (v := 32) d_Model_init_799 rfl ?_
  refine N_ast wWords 69 rfl rfl (N := 96) rfl (by decide) (by decide) (vp_in_nI (show 69 < 96 by decide) (by decide)) d_Model_init_801 ?_
  refine X_dup d_Model_init_802 rfl ?_
  refine X_bipush (v := 70) d_Model_init_803 rfl ?_
  refine X_bipush (v := 32) d_Model_init_805 rfl ?_
  refine N_ast wWords 70 rfl rfl (N := 96) rfl (by decide) (by decide) (vp_in_nI (show 70 < 96 by decide) (by decide)) d_Model_init_807 ?_
  refine X_dup d_Model_init_808 rfl ?_
  refine X_bipush (v := 71) d_Model_init_809 rfl ?_
  refine X_bipush (v := 32) d_Model_init_811 rfl ?_
  refine N_ast wWords 71 rfl rfl (N := 96) rfl (by decide) (by decide) (vp_in_nI (show 71 < 96 by decide) (by decide)) d_Model_init_813 ?_
  refine X_dup d_Model_init_814 rfl ?_
  refine X_bipush (v := 72) d_Model_init_815 rfl ?_
  refine X_bipush (v := 111) d_Model_init_817 rfl ?_
  refine N_ast wWords 72 rfl rfl (N := 96) rfl (by decide) (by decide) (vp_in_nI (show 72 < 96 by decide) (by decide)) d_Model_init_819 ?_
  refine X_dup d_Model_init_820 rfl ?_
  refine X_bipush (v := 73) d_Model_init_821 rfl ?_
  refine X_bipush (v := 114) d_Model_init_823 rfl ?_
  refine N_ast wWords 73 rfl rfl (N := 96) rfl (by decide) (by decide) (vp_in_nI (show 73 < 96 by decide) (by decide)) d_Model_init_825 ?_
  refine X_dup d_Model_init_826 rfl ?_
  refine X_bipush (v := 74) d_Model_init_827 rfl ?_
  refine X_bipush (v := 32) d_Model_init_829 rfl ?_
  refine N_ast wWords 74 rfl rfl (N := 96) rfl (by decide) (by decide) (vp_in_nI (show 74 < 96 by decide) (by decide)) d_Model_init_831 ?_
  refine X_dup d_Model_init_832 rfl ?_
  refine X_bipush (v := 75) d_Model_init_833 rfl ?_
  refine X_bipush (v := 32) d_Model_init_835 rfl ?_
  refine N_ast wWords 75 rfl rfl (N := 96) rfl (by decide) (by decide) (vp_in_nI (show 75 < 96 by decide) (by decide)) d_Model_init_837 ?_
  refine X_dup d_Model_init_838 rfl ?_
  refine X_bipush (v := 76) d_Model_init_839 rfl ?_
  refine X_bipush (v := 32) d_Model_init_841 rfl ?_
  refine N_ast wWords 76 rfl rfl (N := 96) rfl (by decide) (by decide) (vp_in_nI (show 76 < 96 by decide) (by decide)) d_Model_init_843 ?_
  refine X_dup d_Model_init_844 rfl ?_
  refine X_bipush (v := 77) d_Model_init_845 rfl ?_
  refine X_bipush (v := 32) d_Model_init_847 rfl ?_
  refine N_ast wWords 77 rfl rfl (N := 96) rfl (by decide) (by decide) (vp_in_nI (show 77 < 96 by decide) (by decide)) d_Model_init_849 ?_
  refine X_dup d_Model_init_850 rfl ?_
  refine X_bipush (v := 78) d_Model_init_851 rfl ?_
  refine X_bipush (v := 32) d_Model_init_853 rfl ?_
  refine N_ast wWords 78 rfl rfl (N := 96) rfl (by decide) (by decide) (vp_in_nI (show 78 < 96 by decide) (by decide)) d_Model_init_855 ?_
  refine X_dup d_Model_init_856 rfl ?_
  refine X_bipush (v := 79) d_Model_init_857 rfl ?_
  refine X_bipush (v := 32) d_Model_init_859 rfl ?_
  refine N_ast wWords 79 rfl rfl (N := 96) rfl (by decide) (by decide) (vp_in_nI (show 79 < 96 by decide) (by decide)) d_Model_init_861 ?_
  refine X_dup d_Model_init_862 rfl ?_
  refine X_bipush (v := 80) d_Model_init_863 rfl ?_
  refine X_bipush (v := 97) d_Model_init_865 rfl ?_
  refine N_ast wWords 80 rfl rfl (N := 96) rfl (by decide) (by decide) (vp_in_nI (show 80 < 96 by decide) (by decide)) d_Model_init_867 ?_
  refine X_dup d_Model_init_868 rfl ?_
  refine X_bipush (v := 81) d_Model_init_869 rfl ?_
  refine X_bipush (v := 110) d_Model_init_871 rfl ?_
  refine N_ast wWords 81 rfl rfl (N := 96) rfl (by decide) (by decide) (vp_in_nI (show 81 < 96 by decide) (by decide)) d_Model_init_873 ?_
  refine X_dup d_Model_init_874 rfl ?_
  refine X_bipush (v := 82) d_Model_init_875 rfl ?_
  refine X_bipush (v := 100) d_Model_init_877 rfl ?_
  refine N_ast wWords 82 rfl rfl (N := 96) rfl (by decide) (by decide) (vp_in_nI (show 82 < 96 by decide) (by decide)) d_Model_init_879 ?_
  refine X_dup d_Model_init_880 rfl ?_
  refine X_bipush (v := 83) d_Model_init_881 rfl ?_
  refine X_bipush (v := 32) d_Model_init_883 rfl ?_
  refine N_ast wWords 83 rfl rfl (N := 96) rfl (by decide) (by decide) (vp_in_nI (show 83 < 96 by decide) (by decide)) d_Model_init_885 ?_
  refine X_dup d_Model_init_886 rfl ?_
  refine X_bipush (v := 84) d_Model_init_887 rfl ?_
  refine X_bipush (v := 32) d_Model_init_889 rfl ?_
  refine N_ast wWords 84 rfl rfl (N := 96) rfl (by decide) (by decide) (vp_in_nI (show 84 < 96 by decide) (by decide)) d_Model_init_891 ?_
  refine X_dup d_Model_init_892 rfl ?_
  refine X_bipush (v := 85) d_Model_init_893 rfl ?_
  refine X_bipush (v := 32) d_Model_init_895 rfl ?_
  refine N_ast wWords 85 rfl rfl (N := 96) rfl (by decide) (by decide) (vp_in_nI (show 85 < 96 by decide) (by decide)) d_Model_init_897 ?_
  refine X_dup d_Model_init_898 rfl ?_
  refine X_bipush (v := 86) d_Model_init_899 rfl ?_
  refine X_bipush (v := 32) d_Model_init_901 rfl ?_
  refine N_ast wWords 86 rfl rfl (N := 96) rfl (by decide) (by decide) (vp_in_nI (show 86 < 96 by decide) (by decide)) d_Model_init_903 ?_
  refine X_dup d_Model_init_904 rfl ?_
  refine X_bipush (v := 87) d_Model_init_905 rfl ?_
  refine X_bipush (v := 32) d_Model_init_907 rfl ?_
  refine N_ast wWords 87 rfl rfl (N := 96) rfl (by decide) (by decide) (vp_in_nI (show 87 < 96 by decide) (by decide)) d_Model_init_909 ?_
  refine X_dup d_Model_init_910 rfl ?_
  refine X_bipush (v := 88) d_Model_init_911 rfl ?_
  refine X_bipush (v := 110) d_Model_init_913 rfl ?_
  refine N_ast wWords 88 rfl rfl (N := 96) rfl (by decide) (by decide) (vp_in_nI (show 88 < 96 by decide) (by decide)) d_Model_init_915 ?_
  refine X_dup d_Model_init_916 rfl ?_
  refine X_bipush (v := 89) d_Model_init_917 rfl ?_
  refine X_bipush (v := 111) d_Model_init_919 rfl ?_
  refine N_ast wWords 89 rfl rfl (N := 96) rfl (by decide) (by decide) (vp_in_nI (show 89 < 96 by decide) (by decide)) d_Model_init_921 ?_
  refine X_dup d_Model_init_922 rfl ?_
  refine X_bipush (v := 90) d_Model_init_923 rfl ?_
  refine X_bipush (v := 116) d_Model_init_925 rfl ?_
  refine N_ast wWords 90 rfl rfl (N := 96) rfl (by decide) (by decide) (vp_in_nI (show 90 < 96 by decide) (by decide)) d_Model_init_927 ?_
  refine X_dup d_Model_init_928 rfl ?_
  refine X_bipush (v := 91) d_Model_init_929 rfl ?_
  refine X_bipush (v := 32) d_Model_init_931 rfl ?_
  refine N_ast wWords 91 rfl rfl (N := 96) rfl (by decide) (by decide) (vp_in_nI (show 91 < 96 by decide) (by decide)) d_Model_init_933 ?_
  refine X_dup d_Model_init_934 rfl ?_
  refine X_bipush (v := 92) d_Model_init_935 rfl ?_
  refine X_bipush (v := 32) d_Model_init_937 rfl ?_
  refine N_ast wWords 92 rfl rfl (N := 96) rfl (by decide) (by decide) (vp_in_nI (show 92 < 96 by decide) (by decide)) d_Model_init_939 ?_
  refine X_dup d_Model_init_940 rfl ?_
  refine X_bipush (v := 93) d_Model_init_941 rfl ?_
  refine X_bipush (v := 32) d_Model_init_943 rfl ?_
  refine N_ast wWords 93 rfl rfl (N := 96) rfl (by decide) (by decide) (vp_in_nI (show 93 < 96 by decide) (by decide)) d_Model_init_945 ?_
  refine X_dup d_Model_init_946 rfl ?_
  refine X_bipush (v := 94) d_Model_init_947 rfl ?_
  refine X_bipush (v := 32) d_Model_init_949 rfl ?_
  refine N_ast wWords 94 rfl rfl (N := 96) rfl (by decide) (by decide) (vp_in_nI (show 94 < 96 by decide) (by decide)) d_Model_init_951 ?_
  refine X_dup d_Model_init_952 rfl ?_
  refine X_bipush (v := 95) d_Model_init_953 rfl ?_
  refine X_bipush (v := 32) d_Model_init_955 rfl ?_
  refine N_ast wWords 95 rfl rfl (N := 96) rfl (by decide) (by decide) (vp_in_nI (show 95 < 96 by decide) (by decide)) d_Model_init_957 ?_
  refine N_put (vs' := vMod G 72) fp_Model_43 rfl rfl rfl (Nat.le_of_ble_eq_true rfl) rfl d_Model_init_958 ?_
  refine X_aload_n d_Model_init_961 rfl rfl ?_
  refine X_sipush (v := 200) d_Model_init_962 rfl ?_
  refine N_newV (N' := 200) rfl (by decide) (by decide) (by decide) rfl (by decide) (Nat.le_of_ble_eq_true rfl) (Nat.le_of_ble_eq_true rfl) d_Model_init_965 ?_
  refine N_put (vs' := vMod G 73) fp_Model_46 rfl rfl rfl (Nat.le_of_ble_eq_true rfl) rfl d_Model_init_967 ?_
  refine X_aload_n d_Model_init_970 rfl rfl ?_
  refine X_sipush (v := 200) d_Model_init_971 rfl ?_
  refine N_newV (N' := 200) rfl (by decide) (by decide) (by decide) rfl (by decide) (Nat.le_of_ble_eq_true rfl) (Nat.le_of_ble_eq_true rfl) d_Model_init_974 ?_
  refine N_put (vs' := vMod G 74) fp_Model_49 rfl rfl rfl (Nat.le_of_ble_eq_true rfl) rfl d_Model_init_976 ?_
  refine X_aload_n d_Model_init_979 rfl rfl ?_
  refine X_bipush (v := 6) d_Model_init_980 rfl ?_
  refine N_newV (N' := 6) rfl (by decide) (by decide) (by decide) rfl (by decide) (Nat.le_of_ble_eq_true rfl) (Nat.le_of_ble_eq_true rfl) d_Model_init_982 ?_
  refine N_put (vs' := vMod G 75) fp_Model_52 rfl rfl rfl (Nat.le_of_ble_eq_true rfl) rfl d_Model_init_984 ?_
  have e : mR G 59 5 75 (xup (xup (xup (xup (xup (xup (xup (xup (xup (xup (xup (xup (xup (xup (xup (I) 60 (fun _ => 0)) 61 (fun _ => 0)) 62 (fun _ => 0)) 63 (fun _ => 0)) 64 (fun _ => 0)) 65 (fun _ => 0)) 66 (fun _ => 0)) 67 (xla wSort)) 68 (fun _ => 0)) 69 (fun _ => 0)) 70 (xla wLaw)) 71 (xla wWords)) 72 (fun _ => 0)) 73 (fun _ => 0)) 74 (fun _ => 0)) (vMod G 75) = xm G xYf (iMod I) := by
    rw [mR, xYn_75]
    exact xm_up (sh := sModel) (f := fun _ => 0) rfl
  exact e ▸ kk
