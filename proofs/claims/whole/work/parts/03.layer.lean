-- the layer: a world is a memory M by numbers; its object number k stands at address base + k
abbrev xG : Type := va_G × (Nat → ClassId) × Nat
def xg (G : xG) (k : Nat) : Nat := G.2.2 + k
abbrev xA : Type := (Nat × vp_A) ⊕ (Nat × List Value)
abbrev xE : Type := xA ⊕ ((Nat → Int32) → xA)
abbrev xM : Type := Nat → Option xE
def xup {α : Type} (f : Nat → α) (k : Nat) (v : α) : Nat → α := fun j => if j = k then v else f j
theorem xup_s {α : Type} (f : Nat → α) (k : Nat) (v : α) : xup f k v k = v := if_pos rfl
theorem xup_n {α : Type} (f : Nat → α) {k j : Nat} (v : α) (h : j ≠ k) : xup f k v j = f j := if_neg h
def xtys (G : xG) : List (ClassId × FieldType) := [(G.2.1 0, .int), (G.2.1 1, .long), (G.2.1 2, .object R_Head), (G.2.1 3, .object R_Text), (G.2.1 4, .object R_Sheet)]
def xcv (G : xG) : xA → va_E
  | .inl (k, x) => .inl (G.2.1 k, x)
  | .inr o => .inr o
def xat (G : xG) (k : Nat) (x : xE) (H : Heap) : Prop := match x with
  | .inl a => va_at G.1 classes (xg G k, xcv G a) H
  | .inr F => ∃ f : Nat → Int32, va_at G.1 classes (xg G k, xcv G (F f)) H
def xH (G : xG) (n : Nat) (M : xM) (H : Heap) : Prop := H.size = xg G n ∧ (∀ k, n ≤ k → M k = none) ∧ ∀ k x, M k = some x → xat G k x H
def xnest : List Cond := [.methodLinkNest "RoundAndRound" 18 ⟨R_Head, "<init>", "()V"⟩ "RoundAndRound", .methodLinkNest "RoundAndRound" 36 ⟨R_Text, "<init>", "()V"⟩ "RoundAndRound", .methodLinkNest "RoundAndRound" 54 ⟨R_Sheet, "<init>", "()V"⟩ "RoundAndRound", .methodLinkNest "RoundAndRound$Head" 68 ⟨R_X, "bounded", "(III)I"⟩ "RoundAndRound", .methodLinkNest "RoundAndRound$Kind" 21 ⟨R_X, "bounded", "(III)I"⟩ "RoundAndRound", .methodLinkNest "RoundAndRound$Sheet" 22 ⟨R_X, "bounded", "(III)I"⟩ "RoundAndRound", .methodLinkNest "RoundAndRound$Text" 49 ⟨R_X, "bounded", "(III)I"⟩ "RoundAndRound"]
def xK (G : xG) (U : State) : Prop := va_K G.1 classes (xtys G) U ∧ (∀ w ∈ xnest, va_Nw w U) ∧ va_AO R_Head U ∧ va_AO R_Text U ∧ va_AO R_Sheet U
def xF (G : xG) : Nat → Prop := fun q => G.2.2 ≤ q
theorem xK_warm {G : xG} {s U : State} (hW : s.WarmedH U.vm) (h : xK G s) : xK G U := by
  obtain ⟨h1, h2, h3, h4, h5⟩ := h
  refine ⟨va_K.moved hW.alike h1, ?_, h3.moved hW.alike, h4.moved hW.alike, h5.moved hW.alike⟩
  simp only [xnest, List.forall_mem_cons] at h2 ⊢
  obtain ⟨a1, a2, a3, a4, a5, a6, a7, -⟩ := h2
  exact ⟨va_Nw.warmM hW a1, va_Nw.warmM hW a2, va_Nw.warmM hW a3, va_Nw.warmM hW a4, va_Nw.warmM hW a5, va_Nw.warmM hW a6, va_Nw.warmM hW a7, fun _ h => absurd h List.not_mem_nil⟩
theorem xK_same {G : xG} {u U : State} (hv : u.vm = U.vm) (h : xK G u) : xK G U := by
  obtain ⟨h1, h2, h3, h4, h5⟩ := h
  have ha : u.vm.Alike U.vm := by rw [hv]; exact Vm.Alike.refl _
  refine ⟨va_K.moved ha h1, ?_, h3.moved ha, h4.moved ha, h5.moved ha⟩
  simp only [xnest, List.forall_mem_cons] at h2 ⊢
  obtain ⟨a1, a2, a3, a4, a5, a6, a7, -⟩ := h2
  exact ⟨va_Nw.same rfl hv a1, va_Nw.same rfl hv a2, va_Nw.same rfl hv a3, va_Nw.same rfl hv a4, va_Nw.same rfl hv a5, va_Nw.same rfl hv a6, va_Nw.same rfl hv a7, fun _ h => absurd h List.not_mem_nil⟩
/-- what a method needs to know of the machine -/
def xC (p : Program) (s : State) (m : MethodId) (args : Array Value) (meth : Method) (c : Code) (G : xG) (y : MethodName) (cc : ByteArray) (ml : Nat) (rt : Option FieldType) (K : Array Value → State → Prop) : Prop :=
  p.tables.exec = Jvm.exec ∧ c.code = cc ∧ c.maxLocals = ml ∧ meth.sig.returnType = rt ∧ meth.locks = false ∧ s.vm.findClass y.cls = some m.cls ∧ meth.name = y.name ∧ (∀ w ∈ xT, w.before args s = true) ∧ xK G s ∧ K args s ∧ G.2.2 ≤ s.heap.size
/-- from here the method comes to its end as Z says -/
def XW (l : Launch) (G : xG) (R : Room) (y : MethodName) (cc : ByteArray) (ml : Nat) (rt : Option FieldType) (K : Array Value → State → Prop) (Z : List Frame → Array Value → State → State → Prop) (n : Nat) (M : xM) (k sl pc : Nat) (L : List (Nat × Value)) (st : List Value) : Prop :=
  ∀ (p : Program) (e : Env) (s : State) (m : MethodId) (args : Array Value) (below : List Frame) (meth : Method) (c : Code) (H : Heap) (locs : List Loc) (ls : Array Slot), xC p s m args meth c G y cc ml rt K → xH G n M H → va_S (xF G) s.heap H locs → lv_has ls ml L → W p l e R s m args below meth c H locs k sl (Z below args s) (F0 m pc ls st)
def xR (d mc ms : Nat) : Room := { frames := d, cells := mc, slots := ms, locals := 64 * d }
def xQ (G : xG) (n' : Nat) (M' : xM) (r : Option Value) : Array Value → State → Outcome → State → Prop := fun _ st o t => (o = .returned r ∧ xH G n' M' t.heap) ∧ va_F (xF G) st t
def xZ (G : xG) (n' : Nat) (M' : xM) (r : Option Value) (mc ms : Nat) : List Frame → Array Value → State → State → Prop := fun below args s => MQ below (xQ G n' M' r) args s mc ms (xF G)
def xK0 : Array Value → State → Prop := fun _ _ => True
def XM (l : Launch) (G : xG) (d : Nat) (y : MethodName) (cc : ByteArray) (ml : Nat) (rt : Option FieldType) (mc ms : Nat) (K : Array Value → State → Prop) (as : List Value) (n : Nat) (M : xM) (r : Option Value) (n' : Nat) (M' : xM) : Prop :=
  Met l y (.code y cc ml rt :: xT) (xR d mc ms) (va_Pc as (fun U => xK G U ∧ G.2.2 ≤ U.heap.size ∧ xH G n M U.heap ∧ K as.toArray U)) (xQ G n' M' r) mc ms (xF G)
/-- locals: an association list -/
def xlk : List (Nat × Value) → Nat → Option Value
  | [], _ => none
  | (j, v) :: t, i => if j = i then some v else xlk t i
theorem xlk_mem {L : List (Nat × Value)} {i : Nat} {v : Value} (h : xlk L i = some v) : (i, v) ∈ L := by
  induction L with
  | nil => cases h
  | cons q t ih =>
    obtain ⟨j, w⟩ := q
    rw [xlk] at h
    by_cases hj : j = i
    · rw [if_pos hj] at h
      cases h
      rw [hj]
      exact List.mem_cons_self
    · rw [if_neg hj] at h
      exact List.mem_cons_of_mem _ (ih h)
theorem xlk_at {ls : Array Slot} {nL : Nat} {L : List (Nat × Value)} {i : Nat} {v : Value} (h : lv_has ls nL L) (hl : xlk L i = some v) : ls[i]? = some (.val v) := h.2.2 (i, v) (xlk_mem hl)
theorem xsub {ls : Array Slot} {nL : Nat} {L L' : List (Nat × Value)} (h : lv_has ls nL L) (hs : ∀ q ∈ L', q ∈ L) : lv_has ls nL L' := ⟨h.1, h.2.1, fun q hq => h.2.2 q (hs q hq)⟩
/-- L' is what is left of L, in any order, when i is written with v (one slot) -/
def xst1 (L : List (Nat × Value)) (i : Nat) (v : Value) : List (Nat × Value) := (i, v) :: L.filter (fun q => !(q.1 == i) && !(q.1 + 1 == i && q.2.category == 2))
def xst2 (L : List (Nat × Value)) (i : Nat) (v : Value) : List (Nat × Value) := (i, v) :: L.filter (fun q => !(q.1 == i) && (!(q.1 == i + 1) && !(q.1 + 1 == i && q.2.category == 2)))
/-- L' picks places of L -/
def xpick (L : List (Nat × Value)) : List Nat → List (Nat × Value)
  | [] => []
  | k :: ks => (match L[k]? with | some q => [q] | none => []) ++ xpick L ks
theorem xpick_sub (L : List (Nat × Value)) : ∀ ks, ∀ q ∈ xpick L ks, q ∈ L
  | [], q, h => absurd h List.not_mem_nil
  | k :: ks, q, h => by
    rw [xpick] at h
    rcases List.mem_append.mp h with h | h
    · cases hk : L[k]? with
      | none => rw [hk] at h; exact absurd h List.not_mem_nil
      | some q' =>
        rw [hk] at h
        rw [List.mem_singleton.mp h]
        exact List.mem_of_getElem? hk
    · exact xpick_sub L ks q h
section XROWS
variable {l : Launch} {G : xG} {R : Room} {y : MethodName} {cc : ByteArray} {ml : Nat} {rt : Option FieldType} {K : Array Value → State → Prop} {Z : List Frame → Array Value → State → State → Prop} {n : Nat} {M : xM} {kc sl pc : Nat} {L : List (Nat × Value)} {st : List Value}
theorem X_sub {L' : List (Nat × Value)} (ks : List Nat) (h : xpick L ks = L') (k : XW l G R y cc ml rt K Z n M kc sl pc L' st) : XW l G R y cc ml rt K Z n M kc sl pc L st := by
  intro p e s m args below meth c H locs ls hc hH hS hL
  exact k p e s m args below meth c H locs ls hc hH hS (xsub hL (by rw [← h]; exact xpick_sub L ks))
theorem X_widen {k' s' : Nat} (h1 : kc ≤ k') (h2 : sl ≤ s') (k : XW l G R y cc ml rt K Z n M k' s' pc L st) : XW l G R y cc ml rt K Z n M kc sl pc L st := by
  intro p e s m args below meth c H locs ls hc hH hS hL
  exact W.widen h1 h2 (k p e s m args below meth c H locs ls hc hH hS hL)
--ROWSBEGIN--
theorem X_iconst {z : Int} {v : Int32} (hd : decode cc pc = .ok (.iconst z, 1)) (hv : Int32.ofInt z = v) (k : XW l G R y cc ml rt K Z n M kc sl (pc + 1) L (.int v :: st)) : XW l G R y cc ml rt K Z n M kc sl pc L (st) := by
  intro p e s m args below meth c H locs ls hc hH hS hL
  exact lv_iconst hc.1 hc.2.1 hd hv (k p e s m args below meth c H locs ls hc hH hS hL)
theorem X_bipush {z : Int} {v : Int32} (hd : decode cc pc = .ok (.bipush z, 2)) (hv : (Int8.ofInt z).toInt32 = v) (k : XW l G R y cc ml rt K Z n M kc sl (pc + 2) L (.int v :: st)) : XW l G R y cc ml rt K Z n M kc sl pc L (st) := by
  intro p e s m args below meth c H locs ls hc hH hS hL
  exact lv_bipush hc.1 hc.2.1 hd hv (k p e s m args below meth c H locs ls hc hH hS hL)
theorem X_sipush {z : Int} {v : Int32} (hd : decode cc pc = .ok (.sipush z, 3)) (hv : (Int16.ofInt z).toInt32 = v) (k : XW l G R y cc ml rt K Z n M kc sl (pc + 3) L (.int v :: st)) : XW l G R y cc ml rt K Z n M kc sl pc L (st) := by
  intro p e s m args below meth c H locs ls hc hH hS hL
  exact lv_sipush hc.1 hc.2.1 hd hv (k p e s m args below meth c H locs ls hc hH hS hL)
theorem X_lconst {z : Fin 2} {v : Int64} (hd : decode cc pc = .ok (.lconst z, 1)) (hv : Int64.ofNat (z : Nat) = v) (k : XW l G R y cc ml rt K Z n M kc sl (pc + 1) L (.long v :: st)) : XW l G R y cc ml rt K Z n M kc sl pc L (st) := by
  intro p e s m args below meth c H locs ls hc hH hS hL
  exact lv_lconst hc.1 hc.2.1 hd hv (k p e s m args below meth c H locs ls hc hH hS hL)
theorem X_aconst_null  (hd : decode cc pc = .ok (.aconst_null, 1)) (k : XW l G R y cc ml rt K Z n M kc sl (pc + 1) L (.null :: st)) : XW l G R y cc ml rt K Z n M kc sl pc L (st) := by
  intro p e s m args below meth c H locs ls hc hH hS hL
  exact lv_null hc.1 hc.2.1 hd (k p e s m args below meth c H locs ls hc hH hS hL)
theorem X_iload_n {kk : Fin 4} {i : Nat} {x : Int32} (hd : decode cc pc = .ok (.iload_n kk, 1)) (hi : (kk : Nat) = i) (hl : xlk L i = some (.int x)) (k : XW l G R y cc ml rt K Z n M kc sl (pc + 1) L (.int x :: st)) : XW l G R y cc ml rt K Z n M kc sl pc L (st) := by
  intro p e s m args below meth c H locs ls hc hH hS hL
  exact lv_iload_n hc.1 hc.2.1 hd hi (xlk_at hL hl) (k p e s m args below meth c H locs ls hc hH hS hL)
theorem X_iload {i : Nat} {x : Int32} (hd : decode cc pc = .ok (.iload i, 2)) (hl : xlk L i = some (.int x)) (k : XW l G R y cc ml rt K Z n M kc sl (pc + 2) L (.int x :: st)) : XW l G R y cc ml rt K Z n M kc sl pc L (st) := by
  intro p e s m args below meth c H locs ls hc hH hS hL
  exact lv_iload hc.1 hc.2.1 hd (xlk_at hL hl) (k p e s m args below meth c H locs ls hc hH hS hL)
theorem X_istore_n {kk : Fin 4} {i : Nat} {x : Int32} {L' : List (Nat × Value)} (hd : decode cc pc = .ok (.istore_n kk, 1)) (hi : (kk : Nat) = i) (hb : i < ml) (ks : List Nat) (hl : xpick (xst1 L i (.int x)) ks = L') (k : XW l G R y cc ml rt K Z n M kc sl (pc + 1) L' st) : XW l G R y cc ml rt K Z n M kc sl pc L (.int x :: st) := by
  intro p e s m args below meth c H locs ls hc hH hS hL
  exact lv_istore_n hc.1 hc.2.1 hd hi hL hb rfl (fun ls2 hL2 => k p e s m args below meth c H locs ls2 hc hH hS (xsub hL2 (by rw [← hl]; exact xpick_sub _ ks)))
theorem X_istore {i : Nat} {x : Int32} {L' : List (Nat × Value)} (hd : decode cc pc = .ok (.istore i, 2)) (hb : i < ml) (ks : List Nat) (hl : xpick (xst1 L i (.int x)) ks = L') (k : XW l G R y cc ml rt K Z n M kc sl (pc + 2) L' st) : XW l G R y cc ml rt K Z n M kc sl pc L (.int x :: st) := by
  intro p e s m args below meth c H locs ls hc hH hS hL
  exact lv_istore hc.1 hc.2.1 hd hL hb rfl (fun ls2 hL2 => k p e s m args below meth c H locs ls2 hc hH hS (xsub hL2 (by rw [← hl]; exact xpick_sub _ ks)))
theorem X_lload_n {kk : Fin 4} {i : Nat} {x : Int64} (hd : decode cc pc = .ok (.lload_n kk, 1)) (hi : (kk : Nat) = i) (hl : xlk L i = some (.long x)) (k : XW l G R y cc ml rt K Z n M kc sl (pc + 1) L (.long x :: st)) : XW l G R y cc ml rt K Z n M kc sl pc L (st) := by
  intro p e s m args below meth c H locs ls hc hH hS hL
  exact lv_lload_n hc.1 hc.2.1 hd hi (xlk_at hL hl) (k p e s m args below meth c H locs ls hc hH hS hL)
theorem X_lload {i : Nat} {x : Int64} (hd : decode cc pc = .ok (.lload i, 2)) (hl : xlk L i = some (.long x)) (k : XW l G R y cc ml rt K Z n M kc sl (pc + 2) L (.long x :: st)) : XW l G R y cc ml rt K Z n M kc sl pc L (st) := by
  intro p e s m args below meth c H locs ls hc hH hS hL
  exact lv_lload hc.1 hc.2.1 hd (xlk_at hL hl) (k p e s m args below meth c H locs ls hc hH hS hL)
theorem X_lstore_n {kk : Fin 4} {i : Nat} {x : Int64} {L' : List (Nat × Value)} (hd : decode cc pc = .ok (.lstore_n kk, 1)) (hi : (kk : Nat) = i) (hb : i + 1 < ml) (ks : List Nat) (hl : xpick (xst2 L i (.long x)) ks = L') (k : XW l G R y cc ml rt K Z n M kc sl (pc + 1) L' st) : XW l G R y cc ml rt K Z n M kc sl pc L (.long x :: st) := by
  intro p e s m args below meth c H locs ls hc hH hS hL
  exact lv_lstore_n hc.1 hc.2.1 hd hi hL hb rfl (fun ls2 hL2 => k p e s m args below meth c H locs ls2 hc hH hS (xsub hL2 (by rw [← hl]; exact xpick_sub _ ks)))
theorem X_lstore {i : Nat} {x : Int64} {L' : List (Nat × Value)} (hd : decode cc pc = .ok (.lstore i, 2)) (hb : i + 1 < ml) (ks : List Nat) (hl : xpick (xst2 L i (.long x)) ks = L') (k : XW l G R y cc ml rt K Z n M kc sl (pc + 2) L' st) : XW l G R y cc ml rt K Z n M kc sl pc L (.long x :: st) := by
  intro p e s m args below meth c H locs ls hc hH hS hL
  exact lv_lstore hc.1 hc.2.1 hd hL hb rfl (fun ls2 hL2 => k p e s m args below meth c H locs ls2 hc hH hS (xsub hL2 (by rw [← hl]; exact xpick_sub _ ks)))
theorem X_aload_n {kk : Fin 4} {i : Nat} {x : Nat} (hd : decode cc pc = .ok (.aload_n kk, 1)) (hi : (kk : Nat) = i) (hl : xlk L i = some (.ref x)) (k : XW l G R y cc ml rt K Z n M kc sl (pc + 1) L (.ref x :: st)) : XW l G R y cc ml rt K Z n M kc sl pc L (st) := by
  intro p e s m args below meth c H locs ls hc hH hS hL
  exact lv_aload_n hc.1 hc.2.1 hd hi (xlk_at hL hl) (k p e s m args below meth c H locs ls hc hH hS hL)
theorem X_aload {i : Nat} {x : Nat} (hd : decode cc pc = .ok (.aload i, 2)) (hl : xlk L i = some (.ref x)) (k : XW l G R y cc ml rt K Z n M kc sl (pc + 2) L (.ref x :: st)) : XW l G R y cc ml rt K Z n M kc sl pc L (st) := by
  intro p e s m args below meth c H locs ls hc hH hS hL
  exact lv_aload hc.1 hc.2.1 hd (xlk_at hL hl) (k p e s m args below meth c H locs ls hc hH hS hL)
theorem X_astore_n {kk : Fin 4} {i : Nat} {x : Nat} {L' : List (Nat × Value)} (hd : decode cc pc = .ok (.astore_n kk, 1)) (hi : (kk : Nat) = i) (hb : i < ml) (ks : List Nat) (hl : xpick (xst1 L i (.ref x)) ks = L') (k : XW l G R y cc ml rt K Z n M kc sl (pc + 1) L' st) : XW l G R y cc ml rt K Z n M kc sl pc L (.ref x :: st) := by
  intro p e s m args below meth c H locs ls hc hH hS hL
  exact lv_astore_n hc.1 hc.2.1 hd hi hL hb rfl (fun ls2 hL2 => k p e s m args below meth c H locs ls2 hc hH hS (xsub hL2 (by rw [← hl]; exact xpick_sub _ ks)))
theorem X_astore {i : Nat} {x : Nat} {L' : List (Nat × Value)} (hd : decode cc pc = .ok (.astore i, 2)) (hb : i < ml) (ks : List Nat) (hl : xpick (xst1 L i (.ref x)) ks = L') (k : XW l G R y cc ml rt K Z n M kc sl (pc + 2) L' st) : XW l G R y cc ml rt K Z n M kc sl pc L (.ref x :: st) := by
  intro p e s m args below meth c H locs ls hc hH hS hL
  exact lv_astore hc.1 hc.2.1 hd hL hb rfl (fun ls2 hL2 => k p e s m args below meth c H locs ls2 hc hH hS (xsub hL2 (by rw [← hl]; exact xpick_sub _ ks)))
theorem xlk_pl {L : List (Nat × Value)} {i : Nat} {v : Value} (h : xlk L i = some v) : ∃ k : Nat, L[k]? = some (i, v) := List.getElem?_of_mem (xlk_mem h)
theorem X_iinc {i : Nat} {z : Int} {x v : Int32} {L' : List (Nat × Value)} (hd : decode cc pc = .ok (.iinc i z, 3)) (hx : xlk L i = some (.int x)) (hv : x + Int32.ofInt z = v) (hb : i < ml) (ks : List Nat) (hl : xpick (xst1 L i (.int v)) ks = L') (k : XW l G R y cc ml rt K Z n M kc sl (pc + 3) L' st) : XW l G R y cc ml rt K Z n M kc sl pc L st := by
  intro p e s m args below meth c H locs ls hc hH hS hL
  obtain ⟨j, hj⟩ := xlk_pl hx
  exact lv_iinc hc.1 hc.2.1 hd hL hj hv hb rfl (fun ls2 hL2 => k p e s m args below meth c H locs ls2 hc hH hS (xsub hL2 (by rw [← hl]; exact xpick_sub _ ks)))
theorem X_iadd {x z : Int32} (hd : decode cc pc = .ok (.iadd, 1)) (k : XW l G R y cc ml rt K Z n M kc sl (pc + 1) L (.int (x + z) :: st)) : XW l G R y cc ml rt K Z n M kc sl pc L (.int z :: .int x :: st) := by
  intro p e s m args below meth c H locs ls hc hH hS hL
  exact lv_iadd hc.1 hc.2.1 hd (k p e s m args below meth c H locs ls hc hH hS hL)
theorem X_isub {x z : Int32} (hd : decode cc pc = .ok (.isub, 1)) (k : XW l G R y cc ml rt K Z n M kc sl (pc + 1) L (.int (x - z) :: st)) : XW l G R y cc ml rt K Z n M kc sl pc L (.int z :: .int x :: st) := by
  intro p e s m args below meth c H locs ls hc hH hS hL
  exact lv_isub hc.1 hc.2.1 hd (k p e s m args below meth c H locs ls hc hH hS hL)
theorem X_imul {x z : Int32} (hd : decode cc pc = .ok (.imul, 1)) (k : XW l G R y cc ml rt K Z n M kc sl (pc + 1) L (.int (x * z) :: st)) : XW l G R y cc ml rt K Z n M kc sl pc L (.int z :: .int x :: st) := by
  intro p e s m args below meth c H locs ls hc hH hS hL
  exact lv_imul hc.1 hc.2.1 hd (k p e s m args below meth c H locs ls hc hH hS hL)
theorem X_iand {x z : Int32} (hd : decode cc pc = .ok (.iand, 1)) (k : XW l G R y cc ml rt K Z n M kc sl (pc + 1) L (.int (x &&& z) :: st)) : XW l G R y cc ml rt K Z n M kc sl pc L (.int z :: .int x :: st) := by
  intro p e s m args below meth c H locs ls hc hH hS hL
  exact lv_iand hc.1 hc.2.1 hd (k p e s m args below meth c H locs ls hc hH hS hL)
theorem X_ior {x z : Int32} (hd : decode cc pc = .ok (.ior, 1)) (k : XW l G R y cc ml rt K Z n M kc sl (pc + 1) L (.int (x ||| z) :: st)) : XW l G R y cc ml rt K Z n M kc sl pc L (.int z :: .int x :: st) := by
  intro p e s m args below meth c H locs ls hc hH hS hL
  exact lv_ior hc.1 hc.2.1 hd (k p e s m args below meth c H locs ls hc hH hS hL)
theorem X_idiv {x z : Int32} (hd : decode cc pc = .ok (.idiv, 1)) (hn : ¬ z = 0) (k : XW l G R y cc ml rt K Z n M kc sl (pc + 1) L (.int (x / z) :: st)) : XW l G R y cc ml rt K Z n M kc sl pc L (.int z :: .int x :: st) := by
  intro p e s m args below meth c H locs ls hc hH hS hL
  exact lv_idiv hc.1 hc.2.1 hd hn (k p e s m args below meth c H locs ls hc hH hS hL)
theorem X_irem {x z : Int32} (hd : decode cc pc = .ok (.irem, 1)) (hn : ¬ z = 0) (k : XW l G R y cc ml rt K Z n M kc sl (pc + 1) L (.int (x - x / z * z) :: st)) : XW l G R y cc ml rt K Z n M kc sl pc L (.int z :: .int x :: st) := by
  intro p e s m args below meth c H locs ls hc hH hS hL
  exact lv_irem hc.1 hc.2.1 hd hn (k p e s m args below meth c H locs ls hc hH hS hL)
theorem X_ineg {x : Int32} (hd : decode cc pc = .ok (.ineg, 1)) (k : XW l G R y cc ml rt K Z n M kc sl (pc + 1) L (.int (-x) :: st)) : XW l G R y cc ml rt K Z n M kc sl pc L (.int x :: st) := by
  intro p e s m args below meth c H locs ls hc hH hS hL
  exact lv_ineg hc.1 hc.2.1 hd (k p e s m args below meth c H locs ls hc hH hS hL)
theorem X_ladd {x z : Int64} (hd : decode cc pc = .ok (.ladd, 1)) (k : XW l G R y cc ml rt K Z n M kc sl (pc + 1) L (.long (x + z) :: st)) : XW l G R y cc ml rt K Z n M kc sl pc L (.long z :: .long x :: st) := by
  intro p e s m args below meth c H locs ls hc hH hS hL
  exact lv_ladd hc.1 hc.2.1 hd (k p e s m args below meth c H locs ls hc hH hS hL)
theorem X_lsub {x z : Int64} (hd : decode cc pc = .ok (.lsub, 1)) (k : XW l G R y cc ml rt K Z n M kc sl (pc + 1) L (.long (x - z) :: st)) : XW l G R y cc ml rt K Z n M kc sl pc L (.long z :: .long x :: st) := by
  intro p e s m args below meth c H locs ls hc hH hS hL
  exact lv_lsub hc.1 hc.2.1 hd (k p e s m args below meth c H locs ls hc hH hS hL)
theorem X_lmul {x z : Int64} (hd : decode cc pc = .ok (.lmul, 1)) (k : XW l G R y cc ml rt K Z n M kc sl (pc + 1) L (.long (x * z) :: st)) : XW l G R y cc ml rt K Z n M kc sl pc L (.long z :: .long x :: st) := by
  intro p e s m args below meth c H locs ls hc hH hS hL
  exact lv_lmul hc.1 hc.2.1 hd (k p e s m args below meth c H locs ls hc hH hS hL)
theorem X_ldiv {x z : Int64} (hd : decode cc pc = .ok (.ldiv, 1)) (hn : ¬ z = 0) (k : XW l G R y cc ml rt K Z n M kc sl (pc + 1) L (.long (x / z) :: st)) : XW l G R y cc ml rt K Z n M kc sl pc L (.long z :: .long x :: st) := by
  intro p e s m args below meth c H locs ls hc hH hS hL
  exact lv_ldiv hc.1 hc.2.1 hd hn (k p e s m args below meth c H locs ls hc hH hS hL)
theorem X_lrem {x z : Int64} (hd : decode cc pc = .ok (.lrem, 1)) (hn : ¬ z = 0) (k : XW l G R y cc ml rt K Z n M kc sl (pc + 1) L (.long (x - x / z * z) :: st)) : XW l G R y cc ml rt K Z n M kc sl pc L (.long z :: .long x :: st) := by
  intro p e s m args below meth c H locs ls hc hH hS hL
  exact lv_lrem hc.1 hc.2.1 hd hn (k p e s m args below meth c H locs ls hc hH hS hL)
theorem X_ishl {x z : Int32} (hd : decode cc pc = .ok (.ishl, 1)) (k : XW l G R y cc ml rt K Z n M kc sl (pc + 1) L (.int (x <<< (z &&& 31)) :: st)) : XW l G R y cc ml rt K Z n M kc sl pc L (.int z :: .int x :: st) := by
  intro p e s m args below meth c H locs ls hc hH hS hL
  exact lv_ishl hc.1 hc.2.1 hd (k p e s m args below meth c H locs ls hc hH hS hL)
theorem X_i2l {x : Int32} (hd : decode cc pc = .ok (.i2l, 1)) (k : XW l G R y cc ml rt K Z n M kc sl (pc + 1) L (.long x.toInt64 :: st)) : XW l G R y cc ml rt K Z n M kc sl pc L (.int x :: st) := by
  intro p e s m args below meth c H locs ls hc hH hS hL
  exact lv_i2l hc.1 hc.2.1 hd rfl (k p e s m args below meth c H locs ls hc hH hS hL)
theorem X_i2b {x : Int32} (hd : decode cc pc = .ok (.i2b, 1)) (k : XW l G R y cc ml rt K Z n M kc sl (pc + 1) L (.int x.toInt8.toInt32 :: st)) : XW l G R y cc ml rt K Z n M kc sl pc L (.int x :: st) := by
  intro p e s m args below meth c H locs ls hc hH hS hL
  exact lv_i2b hc.1 hc.2.1 hd rfl (k p e s m args below meth c H locs ls hc hH hS hL)
theorem X_i2s {x : Int32} (hd : decode cc pc = .ok (.i2s, 1)) (k : XW l G R y cc ml rt K Z n M kc sl (pc + 1) L (.int x.toInt16.toInt32 :: st)) : XW l G R y cc ml rt K Z n M kc sl pc L (.int x :: st) := by
  intro p e s m args below meth c H locs ls hc hH hS hL
  exact lv_i2s hc.1 hc.2.1 hd rfl (k p e s m args below meth c H locs ls hc hH hS hL)
theorem X_lcmp {x z : Int64} (hd : decode cc pc = .ok (.lcmp, 1)) (k : XW l G R y cc ml rt K Z n M kc sl (pc + 1) L (.int (lg_cmp x z) :: st)) : XW l G R y cc ml rt K Z n M kc sl pc L (.long z :: .long x :: st) := by
  intro p e s m args below meth c H locs ls hc hH hS hL
  exact W.lcmp hc.1 hc.2.1 hd (k p e s m args below meth c H locs ls hc hH hS hL)
theorem X_dup {v : Value} (hd : decode cc pc = .ok (.dup, 1)) (hv : v.category = 1) (k : XW l G R y cc ml rt K Z n M kc sl (pc + 1) L (v :: v :: st)) : XW l G R y cc ml rt K Z n M kc sl pc L (v :: st) := by
  intro p e s m args below meth c H locs ls hc hH hS hL
  exact lv_dup hc.1 hc.2.1 hd hv (k p e s m args below meth c H locs ls hc hH hS hL)
theorem X_pop {v : Value} (hd : decode cc pc = .ok (.pop, 1)) (hv : v.category = 1) (k : XW l G R y cc ml rt K Z n M kc sl (pc + 1) L (st)) : XW l G R y cc ml rt K Z n M kc sl pc L (v :: st) := by
  intro p e s m args below meth c H locs ls hc hH hS hL
  exact lv_pop hc.1 hc.2.1 hd hv (k p e s m args below meth c H locs ls hc hH hS hL)
theorem X_goto {off : Int} {tgt : Nat} (hd : decode cc pc = .ok (.goto off, 3)) (ht : (pc : Int) + off = (tgt : Int)) (k : XW l G R y cc ml rt K Z n M kc sl tgt L (st)) : XW l G R y cc ml rt K Z n M kc sl pc L (st) := by
  intro p e s m args below meth c H locs ls hc hH hS hL
  exact lv_goto hc.1 hc.2.1 hd ht (k p e s m args below meth c H locs ls hc hH hS hL)
theorem X_ifnonnull {x : Nat} {off : Int} {tgt : Nat} (hd : decode cc pc = .ok (.ifnonnull off, 3)) (ht : (pc : Int) + off = (tgt : Int)) (k : XW l G R y cc ml rt K Z n M kc sl tgt L (st)) : XW l G R y cc ml rt K Z n M kc sl pc L (.ref x :: st) := by
  intro p e s m args below meth c H locs ls hc hH hS hL
  exact lv_ifnonnull hc.1 hc.2.1 hd ht (k p e s m args below meth c H locs ls hc hH hS hL)
theorem X_ifnonnullN {off : Int} (hd : decode cc pc = .ok (.ifnonnull off, 3)) (k : XW l G R y cc ml rt K Z n M kc sl (pc + 3) L (st)) : XW l G R y cc ml rt K Z n M kc sl pc L (.null :: st) := by
  intro p e s m args below meth c H locs ls hc hH hS hL
  exact lv_ifnonnullN hc.1 hc.2.1 hd (k p e s m args below meth c H locs ls hc hH hS hL)
theorem X_if_eq {x : Int32} {off : Int} {tgt : Nat} (hd : decode cc pc = .ok (.ifCond .eq off, 3)) (ht : (pc : Int) + off = (tgt : Int)) (kt : x = 0 → XW l G R y cc ml rt K Z n M kc sl tgt L st) (kf : ¬ x = 0 → XW l G R y cc ml rt K Z n M kc sl (pc + 3) L st) : XW l G R y cc ml rt K Z n M kc sl pc L (.int x :: st) := by
  intro p e s m args below meth c H locs ls hc hH hS hL
  exact lv_if_eq hc.1 hc.2.1 hd ht (fun h => kt h p e s m args below meth c H locs ls hc hH hS hL) (fun h => kf h p e s m args below meth c H locs ls hc hH hS hL)
theorem X_icmp_eq {x z : Int32} {off : Int} {tgt : Nat} (hd : decode cc pc = .ok (.if_icmp .eq off, 3)) (ht : (pc : Int) + off = (tgt : Int)) (kt : x = z → XW l G R y cc ml rt K Z n M kc sl tgt L st) (kf : ¬ x = z → XW l G R y cc ml rt K Z n M kc sl (pc + 3) L st) : XW l G R y cc ml rt K Z n M kc sl pc L (.int z :: .int x :: st) := by
  intro p e s m args below meth c H locs ls hc hH hS hL
  exact lv_icmp_eq hc.1 hc.2.1 hd ht (fun h => kt h p e s m args below meth c H locs ls hc hH hS hL) (fun h => kf h p e s m args below meth c H locs ls hc hH hS hL)
theorem X_if_ne {x : Int32} {off : Int} {tgt : Nat} (hd : decode cc pc = .ok (.ifCond .ne off, 3)) (ht : (pc : Int) + off = (tgt : Int)) (kt : ¬ x = 0 → XW l G R y cc ml rt K Z n M kc sl tgt L st) (kf : x = 0 → XW l G R y cc ml rt K Z n M kc sl (pc + 3) L st) : XW l G R y cc ml rt K Z n M kc sl pc L (.int x :: st) := by
  intro p e s m args below meth c H locs ls hc hH hS hL
  exact lv_if_ne hc.1 hc.2.1 hd ht (fun h => kt h p e s m args below meth c H locs ls hc hH hS hL) (fun h => kf h p e s m args below meth c H locs ls hc hH hS hL)
theorem X_icmp_ne {x z : Int32} {off : Int} {tgt : Nat} (hd : decode cc pc = .ok (.if_icmp .ne off, 3)) (ht : (pc : Int) + off = (tgt : Int)) (kt : ¬ x = z → XW l G R y cc ml rt K Z n M kc sl tgt L st) (kf : x = z → XW l G R y cc ml rt K Z n M kc sl (pc + 3) L st) : XW l G R y cc ml rt K Z n M kc sl pc L (.int z :: .int x :: st) := by
  intro p e s m args below meth c H locs ls hc hH hS hL
  exact lv_icmp_ne hc.1 hc.2.1 hd ht (fun h => kt h p e s m args below meth c H locs ls hc hH hS hL) (fun h => kf h p e s m args below meth c H locs ls hc hH hS hL)
theorem X_if_lt {x : Int32} {off : Int} {tgt : Nat} (hd : decode cc pc = .ok (.ifCond .lt off, 3)) (ht : (pc : Int) + off = (tgt : Int)) (kt : x < 0 → XW l G R y cc ml rt K Z n M kc sl tgt L st) (kf : ¬ x < 0 → XW l G R y cc ml rt K Z n M kc sl (pc + 3) L st) : XW l G R y cc ml rt K Z n M kc sl pc L (.int x :: st) := by
  intro p e s m args below meth c H locs ls hc hH hS hL
  exact lv_if_lt hc.1 hc.2.1 hd ht (fun h => kt h p e s m args below meth c H locs ls hc hH hS hL) (fun h => kf h p e s m args below meth c H locs ls hc hH hS hL)
theorem X_icmp_lt {x z : Int32} {off : Int} {tgt : Nat} (hd : decode cc pc = .ok (.if_icmp .lt off, 3)) (ht : (pc : Int) + off = (tgt : Int)) (kt : x < z → XW l G R y cc ml rt K Z n M kc sl tgt L st) (kf : ¬ x < z → XW l G R y cc ml rt K Z n M kc sl (pc + 3) L st) : XW l G R y cc ml rt K Z n M kc sl pc L (.int z :: .int x :: st) := by
  intro p e s m args below meth c H locs ls hc hH hS hL
  exact lv_icmp_lt hc.1 hc.2.1 hd ht (fun h => kt h p e s m args below meth c H locs ls hc hH hS hL) (fun h => kf h p e s m args below meth c H locs ls hc hH hS hL)
theorem X_if_ge {x : Int32} {off : Int} {tgt : Nat} (hd : decode cc pc = .ok (.ifCond .ge off, 3)) (ht : (pc : Int) + off = (tgt : Int)) (kt : 0 ≤ x → XW l G R y cc ml rt K Z n M kc sl tgt L st) (kf : ¬ 0 ≤ x → XW l G R y cc ml rt K Z n M kc sl (pc + 3) L st) : XW l G R y cc ml rt K Z n M kc sl pc L (.int x :: st) := by
  intro p e s m args below meth c H locs ls hc hH hS hL
  exact lv_if_ge hc.1 hc.2.1 hd ht (fun h => kt h p e s m args below meth c H locs ls hc hH hS hL) (fun h => kf h p e s m args below meth c H locs ls hc hH hS hL)
theorem X_icmp_ge {x z : Int32} {off : Int} {tgt : Nat} (hd : decode cc pc = .ok (.if_icmp .ge off, 3)) (ht : (pc : Int) + off = (tgt : Int)) (kt : z ≤ x → XW l G R y cc ml rt K Z n M kc sl tgt L st) (kf : ¬ z ≤ x → XW l G R y cc ml rt K Z n M kc sl (pc + 3) L st) : XW l G R y cc ml rt K Z n M kc sl pc L (.int z :: .int x :: st) := by
  intro p e s m args below meth c H locs ls hc hH hS hL
  exact lv_icmp_ge hc.1 hc.2.1 hd ht (fun h => kt h p e s m args below meth c H locs ls hc hH hS hL) (fun h => kf h p e s m args below meth c H locs ls hc hH hS hL)
theorem X_if_gt {x : Int32} {off : Int} {tgt : Nat} (hd : decode cc pc = .ok (.ifCond .gt off, 3)) (ht : (pc : Int) + off = (tgt : Int)) (kt : 0 < x → XW l G R y cc ml rt K Z n M kc sl tgt L st) (kf : ¬ 0 < x → XW l G R y cc ml rt K Z n M kc sl (pc + 3) L st) : XW l G R y cc ml rt K Z n M kc sl pc L (.int x :: st) := by
  intro p e s m args below meth c H locs ls hc hH hS hL
  exact lv_if_gt hc.1 hc.2.1 hd ht (fun h => kt h p e s m args below meth c H locs ls hc hH hS hL) (fun h => kf h p e s m args below meth c H locs ls hc hH hS hL)
theorem X_icmp_gt {x z : Int32} {off : Int} {tgt : Nat} (hd : decode cc pc = .ok (.if_icmp .gt off, 3)) (ht : (pc : Int) + off = (tgt : Int)) (kt : z < x → XW l G R y cc ml rt K Z n M kc sl tgt L st) (kf : ¬ z < x → XW l G R y cc ml rt K Z n M kc sl (pc + 3) L st) : XW l G R y cc ml rt K Z n M kc sl pc L (.int z :: .int x :: st) := by
  intro p e s m args below meth c H locs ls hc hH hS hL
  exact lv_icmp_gt hc.1 hc.2.1 hd ht (fun h => kt h p e s m args below meth c H locs ls hc hH hS hL) (fun h => kf h p e s m args below meth c H locs ls hc hH hS hL)
theorem X_if_le {x : Int32} {off : Int} {tgt : Nat} (hd : decode cc pc = .ok (.ifCond .le off, 3)) (ht : (pc : Int) + off = (tgt : Int)) (kt : x ≤ 0 → XW l G R y cc ml rt K Z n M kc sl tgt L st) (kf : ¬ x ≤ 0 → XW l G R y cc ml rt K Z n M kc sl (pc + 3) L st) : XW l G R y cc ml rt K Z n M kc sl pc L (.int x :: st) := by
  intro p e s m args below meth c H locs ls hc hH hS hL
  exact lv_if_le hc.1 hc.2.1 hd ht (fun h => kt h p e s m args below meth c H locs ls hc hH hS hL) (fun h => kf h p e s m args below meth c H locs ls hc hH hS hL)
theorem X_icmp_le {x z : Int32} {off : Int} {tgt : Nat} (hd : decode cc pc = .ok (.if_icmp .le off, 3)) (ht : (pc : Int) + off = (tgt : Int)) (kt : x ≤ z → XW l G R y cc ml rt K Z n M kc sl tgt L st) (kf : ¬ x ≤ z → XW l G R y cc ml rt K Z n M kc sl (pc + 3) L st) : XW l G R y cc ml rt K Z n M kc sl pc L (.int z :: .int x :: st) := by
  intro p e s m args below meth c H locs ls hc hH hS hL
  exact lv_icmp_le hc.1 hc.2.1 hd ht (fun h => kt h p e s m args below meth c H locs ls hc hH hS hL) (fun h => kf h p e s m args below meth c H locs ls hc hH hS hL)
theorem X_lookup {dflt : Int} {ps : Array (Int × Int)} {len : Nat} {x : Int32} {off : Int} {tgt : Nat} (hd : decode cc pc = .ok (.lookupswitch dflt ps, len)) (hp : (ps.toList.zip (ps.toList.drop 1)).all (fun (a, next) => a.1 < next.1) = true) (ho : Op.lookupswitch.offset ps.toList dflt x.toInt = off) (ht : (pc : Int) + off = (tgt : Int)) (k : XW l G R y cc ml rt K Z n M kc sl tgt L st) : XW l G R y cc ml rt K Z n M kc sl pc L (.int x :: st) := by
  intro p e s m args below meth c H locs ls hc hH hS hL
  exact lv_lookup hc.1 hc.2.1 hd hp ho ht (k p e s m args below meth c H locs ls hc hH hS hL)
theorem X_tableOut {dflt lo hi : Int} {offs : Array Int} {len : Nat} {x : Int32} {tgt : Nat} (hd : decode cc pc = .ok (.tableswitch dflt lo hi offs, len)) (h : x.toInt < lo ∨ hi < x.toInt) (ht : (pc : Int) + dflt = (tgt : Int)) (k : XW l G R y cc ml rt K Z n M kc sl tgt L st) : XW l G R y cc ml rt K Z n M kc sl pc L (.int x :: st) := by
  intro p e s m args below meth c H locs ls hc hH hS hL
  exact lv_tableOut hc.1 hc.2.1 hd h ht (k p e s m args below meth c H locs ls hc hH hS hL)
theorem X_tableIn {dflt lo hi : Int} {offs : Array Int} {len : Nat} {x : Int32} {off : Int} {tgt : Nat} (hd : decode cc pc = .ok (.tableswitch dflt lo hi offs, len)) (h1 : ¬ x.toInt < lo) (h2 : ¬ hi < x.toInt) (ho : offs[(x.toInt - lo).toNat]? = some off) (ht : (pc : Int) + off = (tgt : Int)) (k : XW l G R y cc ml rt K Z n M kc sl tgt L st) : XW l G R y cc ml rt K Z n M kc sl pc L (.int x :: st) := by
  intro p e s m args below meth c H locs ls hc hH hS hL
  exact lv_tableIn hc.1 hc.2.1 hd h1 h2 ho ht (k p e s m args below meth c H locs ls hc hH hS hL)
theorem X_ldc {index : Nat} {v : Int32} (hw : Cond.constant y.cls index v ∈ xT) (hd : decode cc pc = .ok (.ldc index, 2)) (k : XW l G R y cc ml rt K Z n M kc sl (pc + 2) L (.int v :: st)) : XW l G R y cc ml rt K Z n M kc sl pc L st := by
  intro p e s m args below meth c H locs ls hc hH hS hL
  exact lv_ldc hc.1 hc.2.1 hc.2.2.2.2.2.1 (hc.2.2.2.2.2.2.2.1 _ hw) hd (k p e s m args below meth c H locs ls hc hH hS hL)
theorem X_ldcw {index : Nat} {v : Int32} (hw : Cond.constant y.cls index v ∈ xT) (hd : decode cc pc = .ok (.ldc_w index, 3)) (k : XW l G R y cc ml rt K Z n M kc sl (pc + 3) L (.int v :: st)) : XW l G R y cc ml rt K Z n M kc sl pc L st := by
  intro p e s m args below meth c H locs ls hc hH hS hL
  exact lv_ldcw hc.1 hc.2.1 hc.2.2.2.2.2.1 (hc.2.2.2.2.2.2.2.1 _ hw) hd (k p e s m args below meth c H locs ls hc hH hS hL)
theorem X_ldc2 {index : Nat} {v : Int64} (hw : Cond.constantLong y.cls index v ∈ xT) (hd : decode cc pc = .ok (.ldc2_w index, 3)) (k : XW l G R y cc ml rt K Z n M kc sl (pc + 3) L (.long v :: st)) : XW l G R y cc ml rt K Z n M kc sl pc L st := by
  intro p e s m args below meth c H locs ls hc hH hS hL
  exact lv_ldc2 hc.1 hc.2.1 hc.2.2.2.2.2.1 (hc.2.2.2.2.2.2.2.1 _ hw) hd (k p e s m args below meth c H locs ls hc hH hS hL)
end XROWS
