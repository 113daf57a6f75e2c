-- the law: what it knows of its script
def xScr (G : xG) (b N : Nat) (xs : Nat → Int32) (U : State) : Prop := va_X b N xs U U.heap ∧ b < U.heap.size ∧ ¬ xF G b
section XLAW
variable {l : Launch} {G : xG} {R : Room} {y : MethodName} {cc : ByteArray} {ml : Nat} {rt : Option FieldType} {P : State → Prop} {Z : List Frame → Array Value → State → State → Prop} {n : Nat} {M : xM} {kc sl pc : Nat} {L : List (Nat × Value)} {st : List Value} {b N : Nat} {xs : Nat → Int32}
theorem X_sldJ (hP : ∀ s, P s → xScr G b N xs s) {i : Int32} (hin : vp_in i N) (hd : decode cc pc = .ok (.iaload, 1)) (k : XW l G R y cc ml rt (xKL P) Z n M kc sl (pc + 1) L (.int (xs i.toNatClampNeg) :: st)) : XW l G R y cc ml rt (xKL P) Z n M kc sl pc L (.int i :: .ref b :: st) := by
  intro p e s m args below meth c H locs ls hc hH hS hL
  have h := hP s hc.2.2.2.2.2.2.2.2.2.1
  exact va_sld hc.1 hc.2.1 h.1 h.2.1 h.2.2 hS hin hd (k p e s m args below meth c H locs ls hc hH hS hL)
theorem X_slenJ (hP : ∀ s, P s → xScr G b N xs s) (hd : decode cc pc = .ok (.arraylength, 1)) (k : XW l G R y cc ml rt (xKL P) Z n M kc sl (pc + 1) L (.int (nI N) :: st)) : XW l G R y cc ml rt (xKL P) Z n M kc sl pc L (.ref b :: st) := by
  intro p e s m args below meth c H locs ls hc hH hS hL
  have h := hP s hc.2.2.2.2.2.2.2.2.2.1
  exact va_slen hc.1 hc.2.1 h.1 h.2.1 h.2.2 hS hd (k p e s m args below meth c H locs ls hc hH hS hL)
end XLAW
