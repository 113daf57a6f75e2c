theorem xT_good : ∀ w ∈ xT, (w.onTables && w.keeps) = true ∨ ∃ ty, w = .arrayClass ty := fun w h => good_of_word (List.mem_filter.mp h).2
theorem xgood {y : MethodName} {b : ByteArray} {ml : Nat} {rt : Option FieldType} (h : Cond.code y b ml rt ∈ xT) : GoodIn xT (.code y b ml rt :: xT) := fun w hw => by
  rcases List.mem_cons.mp hw with rfl | hw
  · exact ⟨h, Or.inl rfl⟩
  · exact ⟨hw, xT_good w hw⟩
theorem xblind {G : xG} {n : Nat} {M : xM} {as : List Value} : FrameBlind (va_Pc as (fun U => xK G U ∧ G.2.2 ≤ U.heap.size ∧ xH G n M U.heap ∧ xK0 as.toArray U)) := by
  intro a U g mk ⟨q1, q2, q3, q4, q5⟩
  exact ⟨q1, xK_same (u := U) (U := U.calling g mk a) rfl q2, q3, q4, trivial⟩
/-- M tells no less than M' -/
def xle (M M' : xM) : Prop := ∀ (G : xG) (n : Nat) (H : Heap), xH G n M H → xH G n M' H
theorem xle_rf (M : xM) : xle M M := fun _ _ _ h => h
theorem xle_of {M M' : xM} (h : M = M') : xle M M' := h ▸ xle_rf M
theorem xle_tr {M1 M2 M3 : xM} (h : xle M1 M2) (h2 : xle M2 M3) : xle M1 M3 := fun G n H q => h2 G n H (h G n H q)
theorem xle_forget {M : xM} {a : Nat} {F : (Nat → Int32) → xA} {f : Nat → Int32} (h : M a = some (.inl (F f))) : xle M (xup M a (some (.inr F))) := by
  intro G n H hH
  exact xH_set (x := .inr F) hH h rfl (fun _ _ => rfl) ⟨f, xH_at hH h⟩
theorem xup_self {α : Type} (f : Nat → α) (k : Nat) : xup f k (f k) = f := by
  funext j
  by_cases h : j = k
  · subst h; exact xup_s _ _ _
  · exact xup_n _ _ h
theorem xup_up {α : Type} (f : Nat → α) (k : Nat) (v w : α) : xup (xup f k v) k w = xup f k w := by
  funext j
  by_cases h : j = k
  · subst h; rw [xup_s, xup_s]
  · rw [xup_n _ _ h, xup_n _ _ h, xup_n _ _ h]
theorem xup_comm {α : Type} (f : Nat → α) {k j : Nat} (v w : α) (h : k ≠ j) : xup (xup f k v) j w = xup (xup f j w) k v := by
  funext i
  by_cases h1 : i = j
  · subst h1; rw [xup_s, xup_n _ _ (Ne.symm h), xup_s]
  · by_cases h2 : i = k
    · subst h2; rw [xup_n _ _ h1, xup_s, xup_s]
    · rw [xup_n _ _ h1, xup_n _ _ h2, xup_n _ _ h2, xup_n _ _ h1]
theorem xRok {d d' ml mc ms : Nat} (h : d' + 1 ≤ d) (hm : ml ≤ 45) : d' + 1 ≤ (xR d mc ms).frames ∧ 8 + (ml + 11) + 64 * d' ≤ (xR d mc ms).locals := by
  refine ⟨h, ?_⟩
  show _ ≤ 64 * d
  omega
/-- what a call needs of the tables -/
def xLB (y' : MethodName) (b' : ByteArray) (ml' : Nat) (rt' : Option FieldType) (na : Nat) : Prop := Cond.initialized y'.cls ∈ xT ∧ Cond.code y' b' ml' rt' ∈ xT ∧ y'.cls ≠ "java/lang/invoke/MethodHandle" ∧ y'.cls ≠ "java/lang/invoke/VarHandle" ∧ (parseMethodDescriptor y'.desc).map (fun d => d.parameters.length) = some na
def xLV (y' : MethodName) (b' : ByteArray) (ml' : Nat) (rt' : Option FieldType) (na : Nat) : Prop := xLB y' b' ml' rt' na ∧ Cond.instanceMethod y' ∈ xT ∧ Cond.selects y'.cls y' y' ∈ xT
def xLS (y' : MethodName) (b' : ByteArray) (ml' : Nat) (rt' : Option FieldType) (na : Nat) : Prop := xLB y' b' ml' rt' na ∧ Cond.static y' ∈ xT
def xLI (y' : MethodName) (b' : ByteArray) (ml' : Nat) (na : Nat) : Prop := xLB y' b' ml' none na ∧ y'.name = "<init>" ∧ Cond.instanceMethod y' ∈ xT
section XCALL
variable {p : Program} {l : Launch} {e : Env} {R : Room} {s : State} {m : MethodId} {args : Array Value} {below : List Frame} {meth : Method} {c : Code} {H : Heap} {locs : List Loc} {cells slots : Nat} {Q : State → Prop}
theorem xcall {G : xG} {n' mc ms pc : Nat} {M' : xM} {r : Option Value} {ls : Array Slot} {rest st0 : List Value} {a : Array Value} (hr : va_Run p l e R s m args below meth c H locs cells slots mc ms (F0 m pc ls st0) rest (xQ G n' M' r a) (xF G)) (hS : va_S (xF G) s.heap H locs)
    (kk : ∀ (H1 : Heap) (locs1 : List Loc), xH G n' M' H1 → va_S (xF G) s.heap H1 locs1 → W p l e R s m args below meth c H1 locs1 (cells + mc) (slots + ms) Q (F0 m (pc + 3) ls (r.toList ++ rest))) : W p l e R s m args below meth c H locs cells slots Q (F0 m pc ls st0) := by
  intro T hT X
  obtain ⟨v, st₀, t, T', L, h0, X', hL, e1, e2, ⟨⟨hv, hb⟩, hz, hk⟩, st⟩ := hr T hT X
  cases hv
  rw [h0] at hz hk
  obtain ⟨t2, a1, b1⟩ := kk T'.heap (locs ++ L) (by rw [e1]; exact hb)
    ⟨Nat.le_trans hS.1 (by rw [e1]; exact hz), fun q h1 h2 => by rw [e1, hk q (Nat.lt_of_lt_of_le h1 hS.1) h2]; exact hS.2.1 q h1 h2, fun q hq => by
      rcases List.mem_append.mp hq with h | h
      · exact hS.2.2 q h
      · exact hL q h⟩ T' rfl X'
  exact ⟨t2, st t2 a1, b1⟩
end XCALL
section XCALLS
variable {l : Launch} {G : xG} {R : Room} {y : MethodName} {cc : ByteArray} {ml : Nat} {rt : Option FieldType} {K : Array Value → State → Prop} {Z : List Frame → Array Value → State → State → Prop} {n : Nat} {M : xM} {kc sl pc : Nat} {L : List (Nat × Value)} {st : List Value}
variable {y' : MethodName} {b' : ByteArray} {ml' na mc ms d' n' a ci idx : Nat} {rt' : Option FieldType} {fs : List Value} {As rest : List Value} {r : Option Value} {M' : xM} {v : Value}
theorem X_callV (hM : XM l G d' y' b' ml' rt' mc ms xK0 (.ref (xg G a) :: As) n M (some v) n' M') (hlk : xLV y' b' ml' rt' na) (hln : Cond.methodLink y.cls idx y' ∈ xT) (hcell : M a = some (.inl (.inr (ci, fs)))) (hcl : (classes[ci]?).map (fun q => q.1) = some y'.cls) (hna : As.length = na) (hrest : (rest.map fun v => v.category).sum ≤ 8) (hR : d' + 1 ≤ R.frames ∧ 8 + (ml' + 11) + 64 * d' ≤ R.locals) (hcs : kc + mc ≤ R.cells ∧ sl + ms ≤ R.slots) (hd : decode cc pc = .ok (.invokevirtual idx, 3)) (hst : As.reverse ++ .ref (xg G a) :: rest = st) (kk : XW l G R y cc ml rt K Z n' M' (kc + mc) (sl + ms) (pc + 3) L (v :: rest)) : XW l G R y cc ml rt K Z n M kc sl pc L st := by
  intro p e s m args below meth c H locs ls hc hH hS hL
  have hts := hc.2.2.2.2.2.2.2.1
  have hKs := hc.2.2.2.2.2.2.2.2.1
  have hP : va_P G.1 classes [(xg G a, .inr (ci, fs))] H := by
    intro j q hj
    cases j with
    | zero => cases hj; exact xH_at hH hcell
    | succ j => cases hj
  obtain ⟨qc, hqc, hq1⟩ : ∃ qc : vw_C, classes[ci]? = some qc ∧ qc.1 = y'.cls := by
    cases hx : classes[ci]? with
    | none => rw [hx] at hcl; cases hcl
    | some qc => rw [hx] at hcl; exact ⟨qc, rfl, Option.some.inj hcl⟩
  have hrv := va_recv hKs.1 hP hqc (q0 := 0) rfl
  rw [hq1] at hrv
  exact xcall (r := (some v)) (va_runV (rest := rest) ⟨hc.1, hc.2.1, hc.2.2.1, hc.2.2.2.2.2.1, hts⟩ hM ⟨callB_of na hts (xgood hlk.1.2.1) rfl rfl rfl (hts _ hlk.1.1) (hts _ hln) ⟨hlk.1.2.2.1, hlk.1.2.2.2.1, hlk.1.2.2.2.2⟩ hR, hts _ hlk.2.1, hts _ hlk.2.2⟩ ⟨xblind, hrv, fun U hU hW => ⟨rfl, xK_warm hW hKs, by rw [hU]; exact Nat.le_trans hc.2.2.2.2.2.2.2.2.2.2 hS.1, by rw [hU]; exact hH, trivial⟩⟩ rfl hna hL.1 hst.symm (lv_room (pc := pc) (m := m) (ls := ls) (rest := st) hrest) hd hcs) hS (fun H1 locs1 h1 h2 => kk p e s m args below meth c H1 locs1 ls hc h1 h2 hL)

theorem X_callS (hM : XM l G d' y' b' ml' rt' mc ms xK0 As n M (some v) n' M') (hlk : xLS y' b' ml' rt' na) (hln : Cond.methodLink y.cls idx y' ∈ xT) (hna : As.length = na) (hrest : (rest.map fun v => v.category).sum ≤ 8) (hR : d' + 1 ≤ R.frames ∧ 8 + (ml' + 11) + 64 * d' ≤ R.locals) (hcs : kc + mc ≤ R.cells ∧ sl + ms ≤ R.slots) (hd : decode cc pc = .ok (.invokestatic idx, 3)) (hst : As.reverse ++ rest = st) (kk : XW l G R y cc ml rt K Z n' M' (kc + mc) (sl + ms) (pc + 3) L (v :: rest)) : XW l G R y cc ml rt K Z n M kc sl pc L st := by
  intro p e s m args below meth c H locs ls hc hH hS hL
  have hts := hc.2.2.2.2.2.2.2.1
  have hKs := hc.2.2.2.2.2.2.2.2.1
  exact xcall (r := (some v)) (va_runS (rest := rest) ⟨hc.1, hc.2.1, hc.2.2.1, hc.2.2.2.2.2.1, hts⟩ hM ⟨callB_of na hts (xgood hlk.1.2.1) rfl rfl rfl (hts _ hlk.1.1) (hts _ hln) ⟨hlk.1.2.2.1, hlk.1.2.2.2.1, hlk.1.2.2.2.2⟩ hR, hts _ hlk.2⟩ ⟨xblind, fun U hU hW => ⟨rfl, xK_warm hW hKs, by rw [hU]; exact Nat.le_trans hc.2.2.2.2.2.2.2.2.2.2 hS.1, by rw [hU]; exact hH, trivial⟩⟩ rfl hna hL.1 hst.symm (lv_room (pc := pc) (m := m) (ls := ls) (rest := st) hrest) hd hcs) hS (fun H1 locs1 h1 h2 => kk p e s m args below meth c H1 locs1 ls hc h1 h2 hL)

theorem X_callSN {host : String} (hM : XM l G d' y' b' ml' rt' mc ms xK0 As n M (some v) n' M') (hlk : xLS y' b' ml' rt' na) (hln : Cond.methodLinkNest y.cls idx y' host ∈ xnest) (hna : As.length = na) (hrest : (rest.map fun v => v.category).sum ≤ 8) (hR : d' + 1 ≤ R.frames ∧ 8 + (ml' + 11) + 64 * d' ≤ R.locals) (hcs : kc + mc ≤ R.cells ∧ sl + ms ≤ R.slots) (hd : decode cc pc = .ok (.invokestatic idx, 3)) (hst : As.reverse ++ rest = st) (kk : XW l G R y cc ml rt K Z n' M' (kc + mc) (sl + ms) (pc + 3) L (v :: rest)) : XW l G R y cc ml rt K Z n M kc sl pc L st := by
  intro p e s m args below meth c H locs ls hc hH hS hL
  have hts := hc.2.2.2.2.2.2.2.1
  have hKs := hc.2.2.2.2.2.2.2.2.1
  exact xcall (r := (some v)) (va_runSN (rest := rest) ⟨hc.1, hc.2.1, hc.2.2.1, hc.2.2.2.2.2.1, hts⟩ hM ⟨va_cnB na hts (xgood hlk.1.2.1) rfl rfl rfl (hKs.2.1 _ hln) (hts _ hlk.1.1) ⟨hlk.1.2.2.1, hlk.1.2.2.2.1, hlk.1.2.2.2.2⟩ hR, hts _ hlk.2, trivial⟩ ⟨xblind, fun U hU hW => ⟨rfl, xK_warm hW hKs, by rw [hU]; exact Nat.le_trans hc.2.2.2.2.2.2.2.2.2.2 hS.1, by rw [hU]; exact hH, trivial⟩⟩ rfl hna hL.1 hst.symm (lv_room (pc := pc) (m := m) (ls := ls) (rest := st) hrest) hd hcs) hS (fun H1 locs1 h1 h2 => kk p e s m args below meth c H1 locs1 ls hc h1 h2 hL)

theorem X_callVv (hM : XM l G d' y' b' ml' rt' mc ms xK0 (.ref (xg G a) :: As) n M none n' M') (hlk : xLV y' b' ml' rt' na) (hln : Cond.methodLink y.cls idx y' ∈ xT) (hcell : M a = some (.inl (.inr (ci, fs)))) (hcl : (classes[ci]?).map (fun q => q.1) = some y'.cls) (hna : As.length = na) (hrest : (rest.map fun v => v.category).sum ≤ 8) (hR : d' + 1 ≤ R.frames ∧ 8 + (ml' + 11) + 64 * d' ≤ R.locals) (hcs : kc + mc ≤ R.cells ∧ sl + ms ≤ R.slots) (hd : decode cc pc = .ok (.invokevirtual idx, 3)) (hst : As.reverse ++ .ref (xg G a) :: rest = st) (kk : XW l G R y cc ml rt K Z n' M' (kc + mc) (sl + ms) (pc + 3) L (rest)) : XW l G R y cc ml rt K Z n M kc sl pc L st := by
  intro p e s m args below meth c H locs ls hc hH hS hL
  have hts := hc.2.2.2.2.2.2.2.1
  have hKs := hc.2.2.2.2.2.2.2.2.1
  have hP : va_P G.1 classes [(xg G a, .inr (ci, fs))] H := by
    intro j q hj
    cases j with
    | zero => cases hj; exact xH_at hH hcell
    | succ j => cases hj
  obtain ⟨qc, hqc, hq1⟩ : ∃ qc : vw_C, classes[ci]? = some qc ∧ qc.1 = y'.cls := by
    cases hx : classes[ci]? with
    | none => rw [hx] at hcl; cases hcl
    | some qc => rw [hx] at hcl; exact ⟨qc, rfl, Option.some.inj hcl⟩
  have hrv := va_recv hKs.1 hP hqc (q0 := 0) rfl
  rw [hq1] at hrv
  exact xcall (r := none) (va_runV (rest := rest) ⟨hc.1, hc.2.1, hc.2.2.1, hc.2.2.2.2.2.1, hts⟩ hM ⟨callB_of na hts (xgood hlk.1.2.1) rfl rfl rfl (hts _ hlk.1.1) (hts _ hln) ⟨hlk.1.2.2.1, hlk.1.2.2.2.1, hlk.1.2.2.2.2⟩ hR, hts _ hlk.2.1, hts _ hlk.2.2⟩ ⟨xblind, hrv, fun U hU hW => ⟨rfl, xK_warm hW hKs, by rw [hU]; exact Nat.le_trans hc.2.2.2.2.2.2.2.2.2.2 hS.1, by rw [hU]; exact hH, trivial⟩⟩ rfl hna hL.1 hst.symm (lv_room (pc := pc) (m := m) (ls := ls) (rest := st) hrest) hd hcs) hS (fun H1 locs1 h1 h2 => kk p e s m args below meth c H1 locs1 ls hc h1 h2 hL)

theorem X_callSv (hM : XM l G d' y' b' ml' rt' mc ms xK0 As n M none n' M') (hlk : xLS y' b' ml' rt' na) (hln : Cond.methodLink y.cls idx y' ∈ xT) (hna : As.length = na) (hrest : (rest.map fun v => v.category).sum ≤ 8) (hR : d' + 1 ≤ R.frames ∧ 8 + (ml' + 11) + 64 * d' ≤ R.locals) (hcs : kc + mc ≤ R.cells ∧ sl + ms ≤ R.slots) (hd : decode cc pc = .ok (.invokestatic idx, 3)) (hst : As.reverse ++ rest = st) (kk : XW l G R y cc ml rt K Z n' M' (kc + mc) (sl + ms) (pc + 3) L (rest)) : XW l G R y cc ml rt K Z n M kc sl pc L st := by
  intro p e s m args below meth c H locs ls hc hH hS hL
  have hts := hc.2.2.2.2.2.2.2.1
  have hKs := hc.2.2.2.2.2.2.2.2.1
  exact xcall (r := none) (va_runS (rest := rest) ⟨hc.1, hc.2.1, hc.2.2.1, hc.2.2.2.2.2.1, hts⟩ hM ⟨callB_of na hts (xgood hlk.1.2.1) rfl rfl rfl (hts _ hlk.1.1) (hts _ hln) ⟨hlk.1.2.2.1, hlk.1.2.2.2.1, hlk.1.2.2.2.2⟩ hR, hts _ hlk.2⟩ ⟨xblind, fun U hU hW => ⟨rfl, xK_warm hW hKs, by rw [hU]; exact Nat.le_trans hc.2.2.2.2.2.2.2.2.2.2 hS.1, by rw [hU]; exact hH, trivial⟩⟩ rfl hna hL.1 hst.symm (lv_room (pc := pc) (m := m) (ls := ls) (rest := st) hrest) hd hcs) hS (fun H1 locs1 h1 h2 => kk p e s m args below meth c H1 locs1 ls hc h1 h2 hL)

theorem X_callSNv {host : String} (hM : XM l G d' y' b' ml' rt' mc ms xK0 As n M none n' M') (hlk : xLS y' b' ml' rt' na) (hln : Cond.methodLinkNest y.cls idx y' host ∈ xnest) (hna : As.length = na) (hrest : (rest.map fun v => v.category).sum ≤ 8) (hR : d' + 1 ≤ R.frames ∧ 8 + (ml' + 11) + 64 * d' ≤ R.locals) (hcs : kc + mc ≤ R.cells ∧ sl + ms ≤ R.slots) (hd : decode cc pc = .ok (.invokestatic idx, 3)) (hst : As.reverse ++ rest = st) (kk : XW l G R y cc ml rt K Z n' M' (kc + mc) (sl + ms) (pc + 3) L (rest)) : XW l G R y cc ml rt K Z n M kc sl pc L st := by
  intro p e s m args below meth c H locs ls hc hH hS hL
  have hts := hc.2.2.2.2.2.2.2.1
  have hKs := hc.2.2.2.2.2.2.2.2.1
  exact xcall (r := none) (va_runSN (rest := rest) ⟨hc.1, hc.2.1, hc.2.2.1, hc.2.2.2.2.2.1, hts⟩ hM ⟨va_cnB na hts (xgood hlk.1.2.1) rfl rfl rfl (hKs.2.1 _ hln) (hts _ hlk.1.1) ⟨hlk.1.2.2.1, hlk.1.2.2.2.1, hlk.1.2.2.2.2⟩ hR, hts _ hlk.2, trivial⟩ ⟨xblind, fun U hU hW => ⟨rfl, xK_warm hW hKs, by rw [hU]; exact Nat.le_trans hc.2.2.2.2.2.2.2.2.2.2 hS.1, by rw [hU]; exact hH, trivial⟩⟩ rfl hna hL.1 hst.symm (lv_room (pc := pc) (m := m) (ls := ls) (rest := st) hrest) hd hcs) hS (fun H1 locs1 h1 h2 => kk p e s m args below meth c H1 locs1 ls hc h1 h2 hL)

theorem X_callI (hM : XM l G d' y' b' ml' none mc ms xK0 (.ref (xg G a) :: As) n M none n' M') (hlk : xLI y' b' ml' na) (hln : Cond.methodLink y.cls idx y' ∈ xT) (hna : As.length = na) (hrest : (rest.map fun v => v.category).sum ≤ 8) (hR : d' + 1 ≤ R.frames ∧ 8 + (ml' + 11) + 64 * d' ≤ R.locals) (hcs : kc + mc ≤ R.cells ∧ sl + ms ≤ R.slots) (hd : decode cc pc = .ok (.invokespecial idx, 3)) (hst : As.reverse ++ .ref (xg G a) :: rest = st) (kk : XW l G R y cc ml rt K Z n' M' (kc + mc) (sl + ms) (pc + 3) L rest) : XW l G R y cc ml rt K Z n M kc sl pc L st := by
  intro p e s m args below meth c H locs ls hc hH hS hL
  have hts := hc.2.2.2.2.2.2.2.1
  have hKs := hc.2.2.2.2.2.2.2.2.1
  exact xcall (r := none) (va_runI (rest := rest) ⟨hc.1, hc.2.1, hc.2.2.1, hc.2.2.2.2.2.1, hts⟩ hM ⟨callB_of na hts (xgood hlk.1.2.1) rfl rfl rfl (hts _ hlk.1.1) (hts _ hln) ⟨hlk.1.2.2.1, hlk.1.2.2.2.1, hlk.1.2.2.2.2⟩ hR, hlk.2.1, hts _ hlk.2.2⟩ ⟨xblind, fun U hU hW => ⟨rfl, xK_warm hW hKs, by rw [hU]; exact Nat.le_trans hc.2.2.2.2.2.2.2.2.2.2 hS.1, by rw [hU]; exact hH, trivial⟩⟩ rfl hna hL.1 hst.symm (lv_room (pc := pc) (m := m) (ls := ls) (rest := st) hrest) hd hcs) hS (fun H1 locs1 h1 h2 => kk p e s m args below meth c H1 locs1 ls hc h1 h2 hL)

theorem X_callIN {host : String} (hM : XM l G d' y' b' ml' none mc ms xK0 (.ref (xg G a) :: As) n M none n' M') (hlk : xLI y' b' ml' na) (hln : Cond.methodLinkNest y.cls idx y' host ∈ xnest) (hna : As.length = na) (hrest : (rest.map fun v => v.category).sum ≤ 8) (hR : d' + 1 ≤ R.frames ∧ 8 + (ml' + 11) + 64 * d' ≤ R.locals) (hcs : kc + mc ≤ R.cells ∧ sl + ms ≤ R.slots) (hd : decode cc pc = .ok (.invokespecial idx, 3)) (hst : As.reverse ++ .ref (xg G a) :: rest = st) (kk : XW l G R y cc ml rt K Z n' M' (kc + mc) (sl + ms) (pc + 3) L rest) : XW l G R y cc ml rt K Z n M kc sl pc L st := by
  intro p e s m args below meth c H locs ls hc hH hS hL
  have hts := hc.2.2.2.2.2.2.2.1
  have hKs := hc.2.2.2.2.2.2.2.2.1
  exact xcall (r := none) (va_runIN (rest := rest) ⟨hc.1, hc.2.1, hc.2.2.1, hc.2.2.2.2.2.1, hts⟩ hM ⟨va_cnB na hts (xgood hlk.1.2.1) rfl rfl rfl (hKs.2.1 _ hln) (hts _ hlk.1.1) ⟨hlk.1.2.2.1, hlk.1.2.2.2.1, hlk.1.2.2.2.2⟩ hR, hlk.2.1, hts _ hlk.2.2⟩ ⟨xblind, fun U hU hW => ⟨rfl, xK_warm hW hKs, by rw [hU]; exact Nat.le_trans hc.2.2.2.2.2.2.2.2.2.2 hS.1, by rw [hU]; exact hH, trivial⟩⟩ rfl hna hL.1 hst.symm (lv_room (pc := pc) (m := m) (ls := ls) (rest := st) hrest) hd hcs) hS (fun H1 locs1 h1 h2 => kk p e s m args below meth c H1 locs1 ls hc h1 h2 hL)

theorem X_mmax {x z : Int32} {idx : Nat} (hln : Cond.methodLink y.cls idx Lib.Math.max.name ∈ xT) (hstat : Cond.static Lib.Math.max.name ∈ xT) (hini : Cond.initialized "java/lang/Math" ∈ xT) (hcode : Cond.code Lib.Math.max.name Lib.Math.max.code 2 (some .int) ∈ xT) (hfr : 1 ≤ R.frames ∧ (st.map fun v => v.category).sum + 13 ≤ R.locals) (hcs : kc ≤ R.cells ∧ sl ≤ R.slots) (hd : decode cc pc = .ok (.invokestatic idx, 3)) (kk : XW l G R y cc ml rt K Z n M kc sl (pc + 3) L (.int (if x < z then z else x) :: st)) : XW l G R y cc ml rt K Z n M kc sl pc L (.int z :: .int x :: st) := by
  intro p e s m args below meth c H locs ls hc hH hS hL
  have hts := hc.2.2.2.2.2.2.2.1
  have hKs := hc.2.2.2.2.2.2.2.2.1
  exact va_mmax hc.1 hc.2.1 (hc.2.2.1.trans hL.1.symm) hc.2.2.2.2.2.1 (hts _ hln) (hts _ hstat) (hts _ hini) (hts _ hcode) hfr.1 hfr.2 hcs.1 hcs.2 hd (kk p e s m args below meth c H locs ls hc hH hS hL)

theorem X_mmin {x z : Int32} {idx : Nat} (hln : Cond.methodLink y.cls idx Lib.Math.min.name ∈ xT) (hstat : Cond.static Lib.Math.min.name ∈ xT) (hini : Cond.initialized "java/lang/Math" ∈ xT) (hcode : Cond.code Lib.Math.min.name Lib.Math.min.code 2 (some .int) ∈ xT) (hfr : 1 ≤ R.frames ∧ (st.map fun v => v.category).sum + 13 ≤ R.locals) (hcs : kc ≤ R.cells ∧ sl ≤ R.slots) (hd : decode cc pc = .ok (.invokestatic idx, 3)) (kk : XW l G R y cc ml rt K Z n M kc sl (pc + 3) L (.int (if z < x then z else x) :: st)) : XW l G R y cc ml rt K Z n M kc sl pc L (.int z :: .int x :: st) := by
  intro p e s m args below meth c H locs ls hc hH hS hL
  have hts := hc.2.2.2.2.2.2.2.1
  have hKs := hc.2.2.2.2.2.2.2.2.1
  exact va_mmin hc.1 hc.2.1 (hc.2.2.1.trans hL.1.symm) hc.2.2.2.2.2.1 (hts _ hln) (hts _ hstat) (hts _ hini) (hts _ hcode) hfr.1 hfr.2 hcs.1 hcs.2 hd (kk p e s m args below meth c H locs ls hc hH hS hL)

theorem X_mabs {x : Int32} {idx : Nat} (hln : Cond.methodLink y.cls idx Lib.Math.abs.name ∈ xT) (hstat : Cond.static Lib.Math.abs.name ∈ xT) (hini : Cond.initialized "java/lang/Math" ∈ xT) (hcode : Cond.code Lib.Math.abs.name Lib.Math.abs.code 1 (some .int) ∈ xT) (hfr : 1 ≤ R.frames ∧ (st.map fun v => v.category).sum + 13 ≤ R.locals) (hcs : kc ≤ R.cells ∧ sl ≤ R.slots) (hd : decode cc pc = .ok (.invokestatic idx, 3)) (kk : XW l G R y cc ml rt K Z n M kc sl (pc + 3) L (.int (if 0 ≤ x then x else 0 - x) :: st)) : XW l G R y cc ml rt K Z n M kc sl pc L (.int x :: st) := by
  intro p e s m args below meth c H locs ls hc hH hS hL
  have hts := hc.2.2.2.2.2.2.2.1
  have hKs := hc.2.2.2.2.2.2.2.2.1
  exact va_mabs hc.1 hc.2.1 (hc.2.2.1.trans hL.1.symm) hc.2.2.2.2.2.1 (hts _ hln) (hts _ hstat) (hts _ hini) (hts _ hcode) hfr.1 hfr.2 hcs.1 hcs.2 hd (kk p e s m args below meth c H locs ls hc hH hS hL)

theorem X_objInit {a idx : Nat} (hln : Cond.methodLink y.cls idx Lib.objectInit ∈ xT) (hinst : Cond.instanceMethod Lib.objectInit ∈ xT) (hcode : Cond.code Lib.objectInit ⟨#[0xb1]⟩ 1 none ∈ xT) (hfr : 1 ≤ R.frames ∧ 2 * 0 + (st.map fun v => v.category).sum + 12 ≤ R.locals) (hd : decode cc pc = .ok (.invokespecial idx, 3)) (kk : XW l G R y cc ml rt K Z n M kc sl (pc + 3) L st) : XW l G R y cc ml rt K Z n M kc sl pc L (.ref a :: st) := by
  intro p e s m args below meth c H locs ls hc hH hS hL
  have hts := hc.2.2.2.2.2.2.2.1
  have hKs := hc.2.2.2.2.2.2.2.2.1
  exact W.objInit hc.1 hc.2.1 hc.2.2.2.2.2.1 (hts _ hln) (hts _ hinst) (hts _ hcode) rfl (hL.1.trans hc.2.2.1.symm) rfl hd hfr.1 hfr.2 (kk p e s m args below meth c H locs ls hc hH hS hL)

theorem X_iret {x : Int32} (hrt : rt = some .int) (hr : r = some (.int x)) (hM : xle M M') (hd : decode cc pc = .ok (.ireturn, 1)) : XW l G R y cc ml rt K (xZ G n M' r kc sl) n M kc sl pc L [.int x] := by
  intro p e s m args below meth c H locs ls hc hH hS hL
  have hts := hc.2.2.2.2.2.2.2.1
  have hKs := hc.2.2.2.2.2.2.2.2.1
  exact W.iret hc.1 hc.2.1 (hc.2.2.2.1.trans hrt) (fun t ht _ => ⟨⟨by rw [hr], by rw [ht]; exact hM G n H hH⟩, hS.F ht⟩) hS.2.2 hd hc.2.2.2.2.1

theorem X_zret {x : Int32} (hrt : rt = some .boolean) (hx : narrow .boolean (.int x) = .int x) (hr : r = some (.int x)) (hM : xle M M') (hd : decode cc pc = .ok (.ireturn, 1)) : XW l G R y cc ml rt K (xZ G n M' r kc sl) n M kc sl pc L [.int x] := by
  intro p e s m args below meth c H locs ls hc hH hS hL
  have hts := hc.2.2.2.2.2.2.2.1
  have hKs := hc.2.2.2.2.2.2.2.2.1
  exact W.zret hc.1 hc.2.1 (hc.2.2.2.1.trans hrt) hx (fun t ht _ => ⟨⟨by rw [hr], by rw [ht]; exact hM G n H hH⟩, hS.F ht⟩) hS.2.2 hd hc.2.2.2.2.1

theorem X_lret {x : Int64} (hrt : rt = some .long) (hr : r = some (.long x)) (hM : xle M M') (hd : decode cc pc = .ok (.lreturn, 1)) : XW l G R y cc ml rt K (xZ G n M' r kc sl) n M kc sl pc L [.long x] := by
  intro p e s m args below meth c H locs ls hc hH hS hL
  have hts := hc.2.2.2.2.2.2.2.1
  have hKs := hc.2.2.2.2.2.2.2.2.1
  exact W.lret hc.1 hc.2.1 (hc.2.2.2.1.trans hrt) (fun t ht _ => ⟨⟨by rw [hr], by rw [ht]; exact hM G n H hH⟩, hS.F ht⟩) hS.2.2 hd hc.2.2.2.2.1

theorem X_vret (hrt : rt = none) (hr : r = none) (hM : xle M M') (hd : decode cc pc = .ok (.return_, 1)) : XW l G R y cc ml rt K (xZ G n M' r kc sl) n M kc sl pc L [] := by
  intro p e s m args below meth c H locs ls hc hH hS hL
  have hts := hc.2.2.2.2.2.2.2.1
  have hKs := hc.2.2.2.2.2.2.2.2.1
  exact W.vret hc.1 hc.2.1 (hc.2.2.2.1.trans hrt) (fun t ht _ => ⟨⟨by rw [hr], by rw [ht]; exact hM G n H hH⟩, hS.F ht⟩) hS.2.2 hd hc.2.2.2.2.1

theorem X_aret {x : Nat} {C : String} (hrt : rt = some (.object C)) (hr : r = some (.ref x)) (hM : xle M M') (hd : decode cc pc = .ok (.areturn, 1)) : XW l G R y cc ml rt K (xZ G n M' r kc sl) n M kc sl pc L [.ref x] := by
  intro p e s m args below meth c H locs ls hc hH hS hL
  have hts := hc.2.2.2.2.2.2.2.1
  have hKs := hc.2.2.2.2.2.2.2.2.1
  exact W.aret hc.1 hc.2.1 (hc.2.2.2.1.trans hrt) (Or.inl ⟨C, rfl⟩) (Or.inr ⟨x, rfl⟩) (fun t ht _ => ⟨⟨by rw [hr], by rw [ht]; exact hM G n H hH⟩, hS.F ht⟩) hS.2.2 hd hc.2.2.2.2.1

theorem X_know {F : (Nat → Int32) → xA} (hM : M a = some (.inr F)) (kk : ∀ f : Nat → Int32, XW l G R y cc ml rt K Z n (xup M a (some (.inl (F f)))) kc sl pc L st) : XW l G R y cc ml rt K Z n M kc sl pc L st := by
  intro p e s m args below meth c H locs ls hc hH hS hL
  have hts := hc.2.2.2.2.2.2.2.1
  have hKs := hc.2.2.2.2.2.2.2.2.1
  obtain ⟨f, hf⟩ := hH.2.2 a _ hM
  exact kk f p e s m args below meth c H locs ls hc (xH_set (x := .inl (F f)) hH hM rfl (fun _ _ => rfl) hf) hS hL

end XCALLS
/-- a contract out of the walk of a body -/
theorem XM.of {l : Launch} {G : xG} {d : Nat} {y : MethodName} {cc : ByteArray} {ml : Nat} {rt : Option FieldType} {mc ms : Nat} {K : Array Value → State → Prop} {as : List Value} {n n' : Nat} {M M' : xM} {r : Option Value} (hy : plainName y.cls = true) (hlen : (lg_sl as).length ≤ ml) {L : List (Nat × Value)} (hL : lv_args 0 as = L) (k : XW l G (xR d mc ms) y cc ml rt K (xZ G n' M' r mc ms) n M 0 0 0 L []) : XM l G d y cc ml rt mc ms K as n M r n' M' := by
  refine Met.ofW (cc := cc) (maxL := ml) (ret := rt) hy rfl ?_
  intro p e s m args below meth c s₁ B hml hv
  obtain ⟨rfl, hK, hb0, hH, hKK⟩ := hv
  have hts : ∀ w ∈ xT, w.before as.toArray s = true := fun w hw => atoms_spec (ws := .code y cc ml rt :: xT) B.pre w (List.mem_cons_of_mem _ hw)
  have hl := lv_entry as (n := ml) hlen
  rw [hL] at hl
  rw [lg_entry_eq]
  exact k p e s m as.toArray below meth c s.heap [] _ ⟨B.exec, B.bytes, hml, B.returns, B.notSynchronized, findClass_of_methodNamed B.named, (name_of_methodNamed B.named B.method).1, hts, hK, hKK, hb0⟩ hH va_S.rf hl
