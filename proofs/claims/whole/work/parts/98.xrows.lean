def iZ : xI := fun a => match a with
  | 0 => fun k => if k = 13 then -1 else 0
  | 15 => fun k => if k = 1 then -1 else 0
  | 51 => fun k => if k = 1 then -1 else 0
  | 53 => fun k => if k = 1 then -1 else 0
  | 55 => fun k => if k = 1 then -1 else 0
  | 57 => fun k => if k = 1 then -1 else 0
  | _ => fun _ => 0
section XOPEN
variable {l : Launch} {G : xG} {R : Room} {y : MethodName} {cc : ByteArray} {ml : Nat} {rt : Option FieldType} {K : Array Value → State → Prop} {Z : List Frame → Array Value → State → State → Prop} {n : Nat} {I : xI} {kc sl pc : Nat} {L : List (Nat × Value)} {st : List Value} {j : Nat} {Ov Ov' : List (Nat × xE)}
variable {ci N index : Nat} {C : String} {F : u_T} {fs : List Value}
theorem O_new {sh : xS} (he : xcell G sh (I j) = .inl (.inr (ci, fs))) (hY : xYf j = some sh) (hO : ovG Ov j = none) (ty : Nat → FieldType) (hty : ∀ k, k < N → parseFieldDescriptor (F k).2.2.1 = some (ty k)) (hcl : classes[ci]? = some (C, F, N)) (hin : ∀ w ∈ u_ws C F N, w ∈ xT) (hlk : Cond.classLink y.cls index C ∈ xT) (hinst : Cond.instantiable C N ∈ xT) (hini : Cond.initialized C ∈ xT) (hfs : ∀ j, j < N → defaultValue (ty j) = vp_V fs j) (hcells : kc + 1 ≤ R.cells) (hslots : sl + N ≤ R.slots) (hd : decode cc pc = .ok (.new index, 3)) (kk : XW l G R y cc ml rt K Z (j + 1) (mO G (j + 1) I Ov) (kc + 1) (sl + N) (pc + 3) L (.ref (xg G j) :: st)) : XW l G R y cc ml rt K Z j (mO G j I Ov) kc sl pc L st := by
  refine X_new ty hty hcl hin hlk hinst hini hfs hcells hslots hd ?_
  rw [← he, mO_new hY hO]
  exact kk
theorem O_newV (hY : xYf j = some (sVague 1000)) (hO : ovG Ov j = none) (hfs0 : (1, [.int 0, .int 0, .int 0, .int 0, .int 0, .int 0, .int 0, .int 0]) = (ci, fs)) (ty : Nat → FieldType) (hty : ∀ k, k < N → parseFieldDescriptor (F k).2.2.1 = some (ty k)) (hcl : classes[ci]? = some (C, F, N)) (hin : ∀ w ∈ u_ws C F N, w ∈ xT) (hlk : Cond.classLink y.cls index C ∈ xT) (hinst : Cond.instantiable C N ∈ xT) (hini : Cond.initialized C ∈ xT) (hfs : ∀ j, j < N → defaultValue (ty j) = vp_V fs j) (hcells : kc + 1 ≤ R.cells) (hslots : sl + N ≤ R.slots) (hd : decode cc pc = .ok (.new index, 3)) (kk : XW l G R y cc ml rt K Z (j + 1) (mO G (j + 1) I Ov) (kc + 1) (sl + N) (pc + 3) L (.ref (xg G j) :: st)) : XW l G R y cc ml rt K Z j (mO G j I Ov) kc sl pc L st := by
  refine X_new ty hty hcl hin hlk hinst hini hfs hcells hslots hd ?_
  refine X_le (xle_forget (F := xvg G 1000) (f := fun _ => 0) (a := j) (by rw [xup_s, ← hfs0]; rfl)) ?_
  rw [xup_up]
  have e := mO_new (G := G) (I := I) (Ov := Ov) hY hO
  exact e ▸ kk
theorem O_newO (ty : Nat → FieldType) (hty : ∀ k, k < N → parseFieldDescriptor (F k).2.2.1 = some (ty k)) (hcl : classes[ci]? = some (C, F, N)) (hin : ∀ w ∈ u_ws C F N, w ∈ xT) (hlk : Cond.classLink y.cls index C ∈ xT) (hinst : Cond.instantiable C N ∈ xT) (hini : Cond.initialized C ∈ xT) (hfs : ∀ j, j < N → defaultValue (ty j) = vp_V fs j) (hcells : kc + 1 ≤ R.cells) (hslots : sl + N ≤ R.slots) (hd : decode cc pc = .ok (.new index, 3)) (kk : XW l G R y cc ml rt K Z (j + 1) (mO G (j + 1) I ((j, .inl (.inr (ci, fs))) :: Ov)) (kc + 1) (sl + N) (pc + 3) L (.ref (xg G j) :: st)) : XW l G R y cc ml rt K Z j (mO G j I Ov) kc sl pc L st := by
  refine X_new ty hty hcl hin hlk hinst hini hfs hcells hslots hd ?_
  rw [mO_open]
  exact kk
theorem O_anew {N' t index : Nat} {C : String} {z : Int32} (rs : List Nat) (hcl : Cond.classLink y.cls index C ∈ xT) (ht : t < 5) (ht2 : xty[t]? = some (.object C)) (hn : ¬ z < 0) (hN : z.toNatClampNeg = N') (hbytes : N' * 4 ≤ 536870912) (hcells : kc + 1 ≤ R.cells) (hslots : sl + N' ≤ R.slots) (hd : decode cc pc = .ok (.anewarray index, 3)) (kk : XW l G R y cc ml rt K Z (j + 1) (mO G (j + 1) I ((j, aR G t N' rs 0) :: Ov)) (kc + 1) (sl + N') (pc + 3) L (.ref (xg G j) :: st)) : XW l G R y cc ml rt K Z j (mO G j I Ov) kc sl pc L (.int z :: st) := by
  refine X_anew hcl ht ht2 hn hN hbytes hcells hslots hd ?_
  rw [mO_open]
  exact kk
theorem O_newVI {N' : Nat} {z : Int32} (hY : xYf j = some (sVague N')) (h1000 : N' < 1000) (hO : ovG Ov j = none) (hn : ¬ z < 0) (hN : z.toNatClampNeg = N') (hbytes : N' * 4 ≤ 536870912) (hcells : kc + 1 ≤ R.cells) (hslots : sl + N' ≤ R.slots) (hd : decode cc pc = .ok (.newarray .int, 2)) (kk : XW l G R y cc ml rt K Z (j + 1) (mO G (j + 1) I Ov) (kc + 1) (sl + N') (pc + 2) L (.ref (xg G j) :: st)) : XW l G R y cc ml rt K Z j (mO G j I Ov) kc sl pc L (.int z :: st) := by
  refine X_newI ac_int hn hN hbytes hcells hslots hd ?_
  refine X_le (xle_forget (F := xvg G N') (f := fun _ => 0) (a := j) (by rw [xup_s, xvg_a G h1000])) ?_
  rw [xup_up]
  have e := mO_new (G := G) (I := I) (Ov := Ov) hY hO
  exact e ▸ kk
theorem O_putF {a k : Nat} {v : Value} {vs : List Value} {ty : FieldType} (hw : xFP y.cls index ci k ty true) (hnm : y.name = "<init>") (hg : ovG Ov a = some (.inl (.inr (ci, vs)))) (hn : narrow ty v = v) (hfit : fits ty v = true) (hl : k < vs.length) (hOv : ovS Ov a (.inl (.inr (ci, vs.set k v))) = Ov') (hd : decode cc pc = .ok (.putfield index, 3)) (kk : XW l G R y cc ml rt K Z n (mO G j I Ov') kc sl (pc + 3) L st) : XW l G R y cc ml rt K Z n (mO G j I Ov) kc sl pc L (v :: .ref (xg G a) :: st) := by
  refine X_putfieldF k hw hnm (mO_g hg) hn hfit hl hd ?_
  rw [mO_s hg, hOv]
  exact kk
theorem O_putN {a k : Nat} {v : Value} {vs : List Value} {ty : FieldType} (hw : xFP y.cls index ci k ty false) (hg : ovG Ov a = some (.inl (.inr (ci, vs)))) (hn : narrow ty v = v) (hfit : fits ty v = true) (hl : k < vs.length) (hOv : ovS Ov a (.inl (.inr (ci, vs.set k v))) = Ov') (hd : decode cc pc = .ok (.putfield index, 3)) (kk : XW l G R y cc ml rt K Z n (mO G j I Ov') kc sl (pc + 3) L st) : XW l G R y cc ml rt K Z n (mO G j I Ov) kc sl pc L (v :: .ref (xg G a) :: st) := by
  refine X_putfield k hw (mO_g hg) hn hfit hl hd ?_
  rw [mO_s hg, hOv]
  exact kk
theorem O_aast {a t v i' : Nat} {r : vw_C} {vs : List Value} {rs : List Nat} {i : Int32} (ht : xty[t]? = some (.object r.1)) (hg : ovG Ov a = some (aR G t N rs i')) (hi : i.toNatClampNeg = i') (hr : rs[i']? = some v) (hv : mO G j I Ov v = some (.inl (.inr (ci, vs)))) (hcl : classes[ci]? = some r) (hin : vp_in i N) (hOv : ovS Ov a (aR G t N rs (i' + 1)) = Ov') (hd : decode cc pc = .ok (.aastore, 1)) (kk : XW l G R y cc ml rt K Z n (mO G j I Ov') kc sl (pc + 1) L st) : XW l G R y cc ml rt K Z n (mO G j I Ov) kc sl pc L (.ref (xg G v) :: .int i :: .ref (xg G a) :: st) := by
  refine X_aast ht (mO_g hg) hv hcl hin hd ?_
  rw [hi, aR_s hr]
  have e := mO_s (G := G) (j := j) (I := I) (e' := aR G t N rs (i' + 1)) hg
  rw [hOv] at e
  exact e ▸ kk
theorem mO_text {raw : xE} (hI : I j = fun _ => 0) (hI1 : I (j + 1) = fun _ => 0) (hI2 : I (j + 2) = fun _ => 0) (hY : xYf j = some (sText j)) (hY1 : xYf (j + 1) = some (sInts 160)) (hY2 : xYf (j + 2) = some (sInts 3)) (hY3 : xYf (j + 3) = some (sVague 40)) (h0 : ovG Ov j = none) (h1 : ovG Ov (j + 1) = none) (h2 : ovG Ov (j + 2) = none) (h3 : ovG Ov (j + 3) = none) : xle (xup (xup (xup (xup (mO G (j + 1) I ((j, raw) :: Ov)) j (some (.inl (.inr (2, [.ref (xg G (j + 1)), .ref (xg G (j + 1 + 1)), .ref (xg G (j + 1 + 2)), .int 0, .int 0]))))) (j + 1) (some (xAr 160))) (j + 1 + 1) (some (xAr 3))) (j + 1 + 2) (some (xAr 40))) (mO G (j + 4) I Ov) := by
  have e0 : xup (mO G (j + 1) I ((j, raw) :: Ov)) j (some (.inl (.inr (2, [.ref (xg G (j + 1)), .ref (xg G (j + 1 + 1)), .ref (xg G (j + 1 + 2)), .int 0, .int 0])))) = mO G (j + 1) I Ov := by
    rw [mO, xup_up]
    have he : xcell G (sText j) (I j) = .inl (.inr (2, [.ref (xg G (j + 1)), .ref (xg G (j + 1 + 1)), .ref (xg G (j + 1 + 2)), .int 0, .int 0])) := by
      rw [hI]
      rfl
    exact mO_close hY (Nat.lt_succ_self j) h0 he
  have e1 : xup (mO G (j + 1) I Ov) (j + 1) (some (xAr 160)) = mO G (j + 2) I Ov := by
    have z := mO_new (G := G) (I := I) (Ov := Ov) hY1 h1
    rw [hI1] at z
    exact z
  have e2 : xup (mO G (j + 2) I Ov) (j + 2) (some (xAr 3)) = mO G (j + 3) I Ov := by
    have z := mO_new (G := G) (I := I) (Ov := Ov) hY2 h2
    rw [hI2] at z
    exact z
  rw [e0, e1]
  show xle (xup (xup (mO G (j + 2) I Ov) (j + 2) (some (xAr 3))) (j + 3) (some (xAr 40))) _
  rw [e2]
  refine xle_tr (xle_forget (F := xvg G 40) (f := fun _ => 0) (a := j + 3) (by rw [xup_s, xvg_a G (by decide)])) ?_
  rw [xup_up]
  exact xle_of (mO_new (G := G) (I := I) (Ov := Ov) hY3 h3)
theorem mO_sheet {raw : xE} (hI : xfs G [some (j + 1), none, none] 0 (I j) = [.ref (xg G (j + 1)), .int (-1), .int 0]) (hI1 : I (j + 1) = fun _ => 0) (hY : xYf j = some (sSheet j)) (hY1 : xYf (j + 1) = some (sInts 40)) (h0 : ovG Ov j = none) (h1 : ovG Ov (j + 1) = none) : xup (xup (mO G (j + 1) I ((j, raw) :: Ov)) j (some (.inl (.inr (4, [.ref (xg G (j + 1)), .int (-1), .int 0]))))) (j + 1) (some (xAr 40)) = mO G (j + 2) I Ov := by
  have e0 : xup (mO G (j + 1) I ((j, raw) :: Ov)) j (some (.inl (.inr (4, [.ref (xg G (j + 1)), .int (-1), .int 0])))) = mO G (j + 1) I Ov := by
    rw [mO, xup_up]
    have he : xcell G (sSheet j) (I j) = .inl (.inr (4, [.ref (xg G (j + 1)), .int (-1), .int 0])) := by
      rw [← hI]
      rfl
    exact mO_close hY (Nat.lt_succ_self j) h0 he
  rw [e0]
  have z := mO_new (G := G) (I := I) (Ov := Ov) hY1 h1
  rw [hI1] at z
  exact z
end XOPEN
