def xty : List FieldType := [.int, .long, .object R_Head, .object R_Text, .object R_Sheet]
theorem xg_inj {G : xG} {i j : Nat} (h : xg G i = xg G j) : i = j := Nat.add_left_cancel h
theorem xat_kept {G : xG} {k : Nat} {x : xE} {H H1 : Heap} (h : xat G k x H) (hq : H1[xg G k]? = H[xg G k]?) : xat G k x H1 := by
  cases x with
  | inl a => exact va_at.kept h hq
  | inr n =>
    obtain ⟨f, h⟩ := h
    exact ⟨f, va_at.kept h hq⟩
theorem xat_lt {G : xG} {k : Nat} {x : xE} {H : Heap} (h : xat G k x H) : xg G k < H.size := by
  cases x with
  | inl a => exact va_at.lt h
  | inr n =>
    obtain ⟨f, h⟩ := h
    exact va_at.lt h
theorem xH_at {G : xG} {n : Nat} {M : xM} {H : Heap} (h : xH G n M H) {k : Nat} {x : xA} (hk : M k = some (.inl x)) : va_at G.1 classes (xg G k, xcv G x) H := h.2.2 k _ hk
theorem xH_lt {G : xG} {n : Nat} {M : xM} {H : Heap} (h : xH G n M H) {k : Nat} {x : xE} (hk : M k = some x) : k < n := by
  rcases Nat.lt_or_ge k n with q | q
  · exact q
  · rw [h.2.1 k q] at hk
    cases hk
theorem xH_set {G : xG} {n : Nat} {M : xM} {H H1 : Heap} {a : Nat} {x x0 : xE} (h : xH G n M H) (ha : M a = some x0) (z : H1.size = H.size) (oq : ∀ q : Nat, q ≠ xg G a → H1[q]? = H[q]?) (hx : xat G a x H1) : xH G n (xup M a (some x)) H1 := by
  have hl := xH_lt h ha
  refine ⟨z.trans h.1, fun k hk => ?_, fun k w hw => ?_⟩
  · rw [xup_n M (some x) (show k ≠ a by omega)]
    exact h.2.1 k hk
  · by_cases hka : k = a
    · subst hka
      rw [xup_s] at hw
      cases hw
      exact hx
    · rw [xup_n M (some x) hka] at hw
      exact xat_kept (h.2.2 k w hw) (oq _ (fun q => hka (xg_inj q)))
theorem xH_push {G : xG} {n : Nat} {M : xM} {H H1 : Heap} {x : xE} (h : xH G n M H) (z : H1.size = H.size + 1) (oq : ∀ q : Nat, q < H.size → H1[q]? = H[q]?) (hx : xat G n x H1) : xH G (n + 1) (xup M n (some x)) H1 := by
  refine ⟨by rw [z, h.1]; rfl, fun k hk => ?_, fun k w hw => ?_⟩
  · rw [xup_n M (some x) (show k ≠ n by omega)]
    exact h.2.1 k (by omega)
  · by_cases hka : k = n
    · subst hka
      rw [xup_s] at hw
      cases hw
      exact hx
    · rw [xup_n M (some x) hka] at hw
      have h1 := h.2.2 k w hw
      exact xat_kept h1 (oq _ (xat_lt h1))
theorem xF_all {G : xG} {H : Heap} (h : G.2.2 ≤ H.size) : ∀ q, H.size ≤ q → xF G q := fun q hq => Nat.le_trans h hq
theorem xF_in (G : xG) (k : Nat) : xF G (xg G k) := Nat.le_add_right _ _
theorem xS_push {G : xG} {H0 H H1 : Heap} {locs : List Loc} (hS : va_S (xF G) H0 H locs) (z : H1.size = H.size + 1) (oq : ∀ q : Nat, q < H.size → H1[q]? = H[q]?) : va_S (xF G) H0 H1 locs :=
  ⟨Nat.le_trans hS.1 (by omega), fun x h1 h2 => (oq x (Nat.lt_of_lt_of_le h1 hS.1)).trans (hS.2.1 x h1 h2), hS.2.2⟩
/-- a field, as an instruction of class own names it -/
def xFL (own : String) (index ci k : Nat) : Prop := ∃ (C : String) (F : u_T) (N : Nat), classes[ci]? = some (C, F, N) ∧ (∀ w ∈ u_ws C F N, w ∈ xT) ∧ k < N ∧ Cond.fieldLink own index (F k).1 (F k).2.1 (F k).2.2.1 ∈ xT
def xFP (own : String) (index ci k : Nat) (ty : FieldType) (fin : Bool) : Prop := ∃ (C : String) (F : u_T) (N : Nat) (ty0 : Nat → FieldType), (classes[ci]? = some (C, F, N) ∧ (∀ w ∈ u_ws C F N, w ∈ xT) ∧ k < N ∧ Cond.fieldLink own index (F k).1 (F k).2.1 (F k).2.2.1 ∈ xT) ∧ (∀ k, k < N → parseFieldDescriptor (F k).2.2.1 = some (ty0 k)) ∧ (∀ a, a < N → ∀ b, b < N → a ≠ b → (F a).2.1 ≠ (F b).2.1) ∧ (F k).2.2.2 = fin ∧ parseFieldDescriptor (F k).2.2.1 = some ty ∧ (fin = true → (F k).1 = own)
section XHEAP
variable {l : Launch} {G : xG} {R : Room} {y : MethodName} {cc : ByteArray} {ml : Nat} {rt : Option FieldType} {K : Array Value → State → Prop} {Z : List Frame → Array Value → State → State → Prop} {n : Nat} {M : xM} {kc sl pc : Nat} {L : List (Nat × Value)} {st : List Value}
theorem X_getfield {a ci index : Nat} {fs : List Value} {v : Value} (k : Nat) (hw : xFL y.cls index ci k) (hM : M a = some (.inl (.inr (ci, fs)))) (hv : fs[k]? = some v) (hd : decode cc pc = .ok (.getfield index, 3)) (kk : XW l G R y cc ml rt K Z n M kc sl (pc + 3) L (v :: st)) : XW l G R y cc ml rt K Z n M kc sl pc L (.ref (xg G a) :: st) := by
  intro p e s m args below meth c H locs ls hc hH hS hL
  obtain ⟨C, F, N, h1, h2, h3, h4⟩ := hw
  have hP : va_P G.1 classes [(xg G a, .inr (ci, fs))] H := by
    intro j q hj
    cases j with
    | zero => cases hj; exact xH_at hH hM
    | succ j => cases hj
  exact va_get hc.1 hc.2.1 hc.2.2.2.2.2.2.2.1 h2 hc.2.2.2.2.2.1 hc.2.2.2.2.2.2.2.2.1.1 hP 0 rfl h1 k h3 (hc.2.2.2.2.2.2.2.1 _ h4) (fun _ h => h) hv hd (kk p e s m args below meth c H locs ls hc hH hS hL)
theorem X_putfield {a ci index : Nat} {fs : List Value} {v : Value} {ty : FieldType} (k : Nat) (hw : xFP y.cls index ci k ty false) (hM : M a = some (.inl (.inr (ci, fs)))) (hn : narrow ty v = v) (hfit : fits ty v = true) (hl : k < fs.length) (hd : decode cc pc = .ok (.putfield index, 3)) (kk : XW l G R y cc ml rt K Z n (xup M a (some (.inl (.inr (ci, fs.set k v))))) kc sl (pc + 3) L st) : XW l G R y cc ml rt K Z n M kc sl pc L (v :: .ref (xg G a) :: st) := by
  intro p e s m args below meth c H locs ls hc hH hS hL
  obtain ⟨C, F, N, ty0, ⟨h1, h2, h3, h4⟩, h5, h6, h7, h8, -⟩ := hw
  have hts := hc.2.2.2.2.2.2.2.1
  have hown := hc.2.2.2.2.2.1
  have hK := hc.2.2.2.2.2.2.2.2.1.1
  have hap := va_apart (own := y.cls) hts h2 ty0 h5 h6 hK h1
  obtain ⟨r, g1, cell, q1, q2, q3, q4⟩ := xH_at hH hM
  have hr : r = (C, F, N) := Option.some.inj (g1.symm.trans h1)
  subst hr
  obtain ⟨hSl, hfc, kC, hkC, hkind⟩ := hK.1 ci _ h1
  obtain ⟨cf, kf, fi, f, hi, hsl⟩ := hSl k h3
  have hlay := hts _ (h2 _ (u_in_lay h3))
  unfold u_lay at hlay
  rw [if_neg (by rw [h7]; decide)] at hlay
  have hst := (u_facts hfc hkC (u_lays hts h2 h3) hi).1
  have hs6 := u_store hfc hkC hkind hlay hi h8 hn hfit
  refine W.putK hc.1 hc.2.1 (f := f) ⟨hown, hts _ h4, ⟨_, _, _, hi⟩, hst⟩ (by rw [q2]; exact hs6) q1 q3 (by rw [hsl]; exact k2_hasslot (q4 k h3)) rfl rfl hd fun H' e1 e2 e3 => ?_
  rw [hsl] at e1 ⊢
  have hx : va_at G.1 classes (xg G a, .inr (ci, fs.set k v)) H' := ⟨(C, F, N), h1, t_OB.to (V := updV (vp_V fs) k v) ⟨_, e1, q2, q3, t_set q4 hap h3 v⟩ (fun j _ => vp_updV_set hl v j)⟩
  exact kk p e s m args below meth c H' _ ls hc (xH_set (x := .inl (.inr (ci, fs.set k v))) hH hM e2 e3 hx) (hS.put e2 e3 (xF_in G a)) hL
theorem X_putfieldF {a ci index : Nat} {fs : List Value} {v : Value} {ty : FieldType} (k : Nat) (hw : xFP y.cls index ci k ty true) (hnm : y.name = "<init>") (hM : M a = some (.inl (.inr (ci, fs)))) (hn : narrow ty v = v) (hfit : fits ty v = true) (hl : k < fs.length) (hd : decode cc pc = .ok (.putfield index, 3)) (kk : XW l G R y cc ml rt K Z n (xup M a (some (.inl (.inr (ci, fs.set k v))))) kc sl (pc + 3) L st) : XW l G R y cc ml rt K Z n M kc sl pc L (v :: .ref (xg G a) :: st) := by
  intro p e s m args below meth c H locs ls hc hH hS hL
  obtain ⟨C, F, N, ty0, ⟨h1, h2, h3, h4⟩, h5, h6, h7, h8, h9⟩ := hw
  have hdecl := h9 rfl
  have hts := hc.2.2.2.2.2.2.2.1
  have hown := hc.2.2.2.2.2.1
  have hK := hc.2.2.2.2.2.2.2.2.1.1
  have hap := va_apart (own := y.cls) hts h2 ty0 h5 h6 hK h1
  obtain ⟨r, g1, cell, q1, q2, q3, q4⟩ := xH_at hH hM
  have hr : r = (C, F, N) := Option.some.inj (g1.symm.trans h1)
  subst hr
  obtain ⟨hSl, hfc, kC, hkC, hkind⟩ := hK.1 ci _ h1
  obtain ⟨cf, kf, fi, f, hi, hsl⟩ := hSl k h3
  have hlay := hts _ (h2 _ (u_in_lay h3))
  unfold u_lay at hlay
  rw [if_pos h7] at hlay
  have hst := (u_facts hfc hkC (u_lays hts h2 h3) hi).1
  have hcf : m.cls = cf := by
    obtain ⟨_, _, c', _, _, _, -, -, hf', -, -, -, hown2, -⟩ := Cond.laysFinal_spec hlay
    have e1 : c' = cf := by have := hi.symm.trans hf'; simp at this; exact this.1.symm
    rw [hdecl] at hown2
    rw [← e1]; exact Option.some.inj (hown.symm.trans hown2)
  have hs6 := u_fits hfc hkC hkind (Or.inr hlay) hi h8 hn hfit
  refine W.putFinK hc.1 hc.2.1 hown (hts _ h4) hi hst hcf (hc.2.2.2.2.2.2.1.trans hnm) (by rw [q2]; exact hs6) q1 q3 (by rw [hsl]; exact k2_hasslot (q4 k h3)) rfl rfl hd fun H' e1 e2 e3 => ?_
  rw [hsl] at e1 ⊢
  have hx : va_at G.1 classes (xg G a, .inr (ci, fs.set k v)) H' := ⟨(C, F, N), h1, t_OB.to (V := updV (vp_V fs) k v) ⟨_, e1, q2, q3, t_set q4 hap h3 v⟩ (fun j _ => vp_updV_set hl v j)⟩
  exact kk p e s m args below meth c H' _ ls hc (xH_set (x := .inl (.inr (ci, fs.set k v))) hH hM e2 e3 hx) (hS.put e2 e3 (xF_in G a)) hL
theorem X_iald {a N : Nat} {f : Nat → Int32} {i : Int32} (hM : M a = some (.inl (.inl (0, N, .inl f)))) (hin : vp_in i N) (hd : decode cc pc = .ok (.iaload, 1)) (kk : XW l G R y cc ml rt K Z n M kc sl (pc + 1) L (.int (f i.toNatClampNeg) :: st)) : XW l G R y cc ml rt K Z n M kc sl pc L (.int i :: .ref (xg G a) :: st) := by
  intro p e s m args below meth c H locs ls hc hH hS hL
  have hP : va_P G.1 classes [(xg G a, .inl (G.2.1 0, N, .inl f))] H := by
    intro j q hj
    cases j with
    | zero => cases hj; exact xH_at hH hM
    | succ j => cases hj
  exact va_iald hc.1 hc.2.1 hc.2.2.2.2.2.2.2.2.1.1 hP 0 0 rfl rfl hin hd (kk p e s m args below meth c H locs ls hc hH hS hL)
theorem X_lald {a N : Nat} {f : Nat → Int64} {i : Int32} (hM : M a = some (.inl (.inl (1, N, .inr (.inl f))))) (hin : vp_in i N) (hd : decode cc pc = .ok (.laload, 1)) (kk : XW l G R y cc ml rt K Z n M kc sl (pc + 1) L (.long (f i.toNatClampNeg) :: st)) : XW l G R y cc ml rt K Z n M kc sl pc L (.int i :: .ref (xg G a) :: st) := by
  intro p e s m args below meth c H locs ls hc hH hS hL
  have hP : va_P G.1 classes [(xg G a, .inl (G.2.1 1, N, .inr (.inl f)))] H := by
    intro j q hj
    cases j with
    | zero => cases hj; exact xH_at hH hM
    | succ j => cases hj
  exact va_lald hc.1 hc.2.1 hc.2.2.2.2.2.2.2.2.1.1 hP 0 1 rfl rfl hin hd (kk p e s m args below meth c H locs ls hc hH hS hL)
theorem X_aald {a N t : Nat} {C : String} {f : Nat → Option Nat} {i : Int32} (ht : xty[t]? = some (.object C)) (hM : M a = some (.inl (.inl (t, N, .inr (.inr (.inr (.inr f))))))) (hin : vp_in i N) (hd : decode cc pc = .ok (.aaload, 1)) (kk : XW l G R y cc ml rt K Z n M kc sl (pc + 1) L (va_rf (f i.toNatClampNeg) :: st)) : XW l G R y cc ml rt K Z n M kc sl pc L (.int i :: .ref (xg G a) :: st) := by
  intro p e s m args below meth c H locs ls hc hH hS hL
  have hP : va_P G.1 classes [(xg G a, .inl (G.2.1 t, N, .inr (.inr (.inr (.inr f)))))] H := by
    intro j q hj
    cases j with
    | zero => cases hj; exact xH_at hH hM
    | succ j => cases hj
  have ht2 : (xtys G)[t]? = some (G.2.1 t, .object C) := by
    match t, ht with
    | 0, h => cases h
    | 1, h => cases h
    | 2, h => cases h; rfl
    | 3, h => cases h; rfl
    | 4, h => cases h; rfl
    | t + 5, h => simp [xty] at h
  exact va_aldq hc.1 hc.2.1 hc.2.2.2.2.2.2.2.2.1.1 hP 0 t rfl ht2 hin hd (kk p e s m args below meth c H locs ls hc hH hS hL)
theorem X_alen {a t : Nat} {x : vp_A} {v : Int32} (ht : t < 5) (hM : M a = some (.inl (.inl (t, x)))) (hv : Int32.ofNat x.1 = v) (hd : decode cc pc = .ok (.arraylength, 1)) (kk : XW l G R y cc ml rt K Z n M kc sl (pc + 1) L (.int v :: st)) : XW l G R y cc ml rt K Z n M kc sl pc L (.ref (xg G a) :: st) := by
  intro p e s m args below meth c H locs ls hc hH hS hL
  have hP : va_P G.1 classes [(xg G a, .inl (G.2.1 t, x))] H := by
    intro j q hj
    cases j with
    | zero => cases hj; exact xH_at hH hM
    | succ j => cases hj
  have ht2 : ∃ ty, (xtys G)[t]? = some (G.2.1 t, ty) := by
    match t, ht with
    | 0, _ => exact ⟨_, rfl⟩
    | 1, _ => exact ⟨_, rfl⟩
    | 2, _ => exact ⟨_, rfl⟩
    | 3, _ => exact ⟨_, rfl⟩
    | 4, _ => exact ⟨_, rfl⟩
  obtain ⟨ty, ht2⟩ := ht2
  exact va_alen hc.1 hc.2.1 hc.2.2.2.2.2.2.2.2.1.1 hP 0 t rfl ht2 hv hd (kk p e s m args below meth c H locs ls hc hH hS hL)
theorem xupd_up (f : Nat → Int32) (i : Nat) (x : Int32) : upd f i x = xup f i x := rfl
theorem X_iast {a N : Nat} {f : Nat → Int32} {i x : Int32} (hM : M a = some (.inl (.inl (0, N, .inl f)))) (hin : vp_in i N) (hd : decode cc pc = .ok (.iastore, 1)) (kk : XW l G R y cc ml rt K Z n (xup M a (some (.inl (.inl (0, N, .inl (xup f i.toNatClampNeg x)))))) kc sl (pc + 1) L st) : XW l G R y cc ml rt K Z n M kc sl pc L (.int x :: .int i :: .ref (xg G a) :: st) := by
  intro p e s m args below meth c H locs ls hc hH hS hL
  have hK := hc.2.2.2.2.2.2.2.2.1.1
  refine W.iast hc.1 hc.2.1 (xH_at hH hM) ((hK.2 0 _ rfl).1 N (fun j => .int (f j))) (fun q => by cases q) (by show ¬ (i < 0 ∨ (arrV _ _ _).slots.size ≤ _); rw [arrV_size]; exact hin) rfl rfl hd fun H1 e1 z oq => ?_
  refine kk p e s m args below meth c H1 _ ls hc (xH_set hH hM z oq ?_) (hS.put z oq (xF_in G a)) hL
  show H1[xg G a]? = some (vp_cell _ _)
  rw [e1]
  rw [vp_cell_i, vp_cell_i, arrV_store]
  congr 2
  funext q
  by_cases hq : q = i.toNatClampNeg
  · subst hq
    simp [updV, xup]
  · simp [updV, xup, hq]
theorem X_last {a N : Nat} {f : Nat → Int64} {i : Int32} {x : Int64} (hM : M a = some (.inl (.inl (1, N, .inr (.inl f))))) (hin : vp_in i N) (hd : decode cc pc = .ok (.lastore, 1)) (kk : XW l G R y cc ml rt K Z n (xup M a (some (.inl (.inl (1, N, .inr (.inl (xup f i.toNatClampNeg x))))))) kc sl (pc + 1) L st) : XW l G R y cc ml rt K Z n M kc sl pc L (.long x :: .int i :: .ref (xg G a) :: st) := by
  intro p e s m args below meth c H locs ls hc hH hS hL
  have hK := hc.2.2.2.2.2.2.2.2.1.1
  refine W.last hc.1 hc.2.1 (xH_at hH hM) ((hK.2 1 _ rfl).1 N (fun j => .long (f j))) (fun q => by cases q) (by show ¬ (i < 0 ∨ (arrV _ _ _).slots.size ≤ _); rw [arrV_size]; exact hin) rfl rfl hd fun H1 e1 z oq => ?_
  refine kk p e s m args below meth c H1 _ ls hc (xH_set hH hM z oq ?_) (hS.put z oq (xF_in G a)) hL
  show H1[xg G a]? = some (vp_cell _ _)
  rw [e1]
  rw [vp_cell_l, vp_cell_l, arrV_store]
  congr 2
  funext q
  by_cases hq : q = i.toNatClampNeg
  · subst hq
    simp [updV, xup]
  · simp [updV, xup, hq]
theorem X_aast {a N t v ci : Nat} {r : vw_C} {f : Nat → Option Nat} {vs : List Value} {i : Int32} (ht : xty[t]? = some (.object r.1)) (hM : M a = some (.inl (.inl (t, N, .inr (.inr (.inr (.inr f))))))) (hv : M v = some (.inl (.inr (ci, vs)))) (hcl : classes[ci]? = some r) (hin : vp_in i N) (hd : decode cc pc = .ok (.aastore, 1)) (kk : XW l G R y cc ml rt K Z n (xup M a (some (.inl (.inl (t, N, .inr (.inr (.inr (.inr (xup f i.toNatClampNeg (some (xg G v)))))))))) ) kc sl (pc + 1) L st) : XW l G R y cc ml rt K Z n M kc sl pc L (.ref (xg G v) :: .int i :: .ref (xg G a) :: st) := by
  intro p e s m args below meth c H locs ls hc hH hS hL
  have hK := hc.2.2.2.2.2.2.2.2.1.1
  have ht2 : (xtys G)[t]? = some (G.2.1 t, .object r.1) := by
    match t, ht with
    | 0, h => cases h
    | 1, h => cases h
    | 2, h => rw [← Option.some.inj h]; rfl
    | 3, h => rw [← Option.some.inj h]; rfl
    | 4, h => rw [← Option.some.inj h]; rfl
    | t + 5, h => simp [xty] at h
  have hlt : i.toNatClampNeg < N := Nat.not_le.mp fun q => hin (Or.inr q)
  have h0 : ¬ i < 0 := fun q => hin (Or.inl q)
  obtain ⟨r', hr', cellV, g1, g2, g3, -⟩ := xH_at hH hv
  have hcls := (hK.1 ci r hcl).2
  obtain ⟨kA, comp, k1, k2, k3, -⟩ := (hK.2 t _ ht2).2
  have hcomp : comp = G.1.1 ci := Option.some.inj (k3.symm.trans hcls.1)
  subst hcomp
  obtain ⟨kC, hkC, -⟩ := hcls.2
  refine W.aast hc.1 hc.2.1 (xH_at hH hM) (fun q h => by cases h) (fun h => by cases h) k1 k2 rfl hkC ⟨h0, by show _ < (arrV _ _ _).slots.size; rw [arrV_size]; exact hlt⟩ g1 (fun q h => by rw [g3] at h; cases h) (by rw [g2]; exact hkC) (by rw [g2]; exact va_assign hcls) rfl rfl hd fun H1 e1 z oq => ?_
  refine kk p e s m args below meth c H1 _ ls hc (xH_set hH hM z oq ?_) (hS.put z oq (xF_in G a)) hL
  show H1[xg G a]? = some (vp_cell _ _)
  rw [e1]
  rw [vp_cell_q, vp_cell_q, arrV_store]
  congr 2
  funext q
  by_cases hq : q = i.toNatClampNeg
  · subst hq
    simp [updV, xup, va_rf]
  · simp [updV, xup, hq]
theorem X_newI {N' : Nat} {z : Int32} (harr : Cond.arrayClass .int ∈ xT) (hn : ¬ z < 0) (hN : z.toNatClampNeg = N') (hbytes : N' * 4 ≤ 536870912) (hcells : kc + 1 ≤ R.cells) (hslots : sl + N' ≤ R.slots) (hd : decode cc pc = .ok (.newarray .int, 2)) (kk : XW l G R y cc ml rt K Z (n + 1) (xup M n (some (.inl (.inl (0, N', .inl (fun _ => 0)))))) (kc + 1) (sl + N') (pc + 2) L (.ref (xg G n) :: st)) : XW l G R y cc ml rt K Z n M kc sl pc L (.int z :: st) := by
  intro p e s m args below meth c H locs ls hc hH hS hL
  have hK := hc.2.2.2.2.2.2.2.2.1.1
  refine va_newaK (atype := .int) hc.1 hc.2.1 (hc.2.2.2.2.2.2.2.1 _ harr) rfl hd rfl hn hN hbytes hcells hslots rfl fun H1 cA e1 z1 o1 hAr hNm => ?_
  have hcA : cA = G.2.1 0 := Option.some.inj (hNm.symm.trans (hK.2 0 _ rfl).2)
  subst hcA
  have hx : H1[xg G n]? = some (vp_cell (G.2.1 0) (N', .inl (fun _ => 0))) := by
    rw [← hH.1, e1]
    rfl
  have h2 := kk p e s m args below meth c H1 locs ls hc (xH_push hH z1 o1 (show xat G n (.inl (.inl (0, N', .inl (fun _ => 0)))) H1 from hx)) (xS_push hS z1 o1) hL
  rw [← hH.1] at h2
  exact h2
theorem X_newL {N' : Nat} {z : Int32} (harr : Cond.arrayClass .long ∈ xT) (hn : ¬ z < 0) (hN : z.toNatClampNeg = N') (hbytes : N' * 8 ≤ 536870912) (hcells : kc + 1 ≤ R.cells) (hslots : sl + N' ≤ R.slots) (hd : decode cc pc = .ok (.newarray .long, 2)) (kk : XW l G R y cc ml rt K Z (n + 1) (xup M n (some (.inl (.inl (1, N', .inr (.inl (fun _ => 0))))))) (kc + 1) (sl + N') (pc + 2) L (.ref (xg G n) :: st)) : XW l G R y cc ml rt K Z n M kc sl pc L (.int z :: st) := by
  intro p e s m args below meth c H locs ls hc hH hS hL
  have hK := hc.2.2.2.2.2.2.2.2.1.1
  refine va_newaK (atype := .long) hc.1 hc.2.1 (hc.2.2.2.2.2.2.2.1 _ harr) rfl hd rfl hn hN hbytes hcells hslots rfl fun H1 cA e1 z1 o1 hAr hNm => ?_
  have hcA : cA = G.2.1 1 := Option.some.inj (hNm.symm.trans (hK.2 1 _ rfl).2)
  subst hcA
  have hx : H1[xg G n]? = some (vp_cell (G.2.1 1) (N', .inr (.inl (fun _ => 0)))) := by
    rw [← hH.1, e1]
    rfl
  have h2 := kk p e s m args below meth c H1 locs ls hc (xH_push hH z1 o1 (show xat G n (.inl (.inl (1, N', .inr (.inl (fun _ => 0))))) H1 from hx)) (xS_push hS z1 o1) hL
  rw [← hH.1] at h2
  exact h2
theorem X_anew {N' t index : Nat} {C : String} {z : Int32} (hcl : Cond.classLink y.cls index C ∈ xT) (ht : t < 5) (ht2 : xty[t]? = some (.object C)) (hn : ¬ z < 0) (hN : z.toNatClampNeg = N') (hbytes : N' * 4 ≤ 536870912) (hcells : kc + 1 ≤ R.cells) (hslots : sl + N' ≤ R.slots) (hd : decode cc pc = .ok (.anewarray index, 3)) (kk : XW l G R y cc ml rt K Z (n + 1) (xup M n (some (.inl (.inl (t, N', .inr (.inr (.inr (.inr (fun _ => none))))))))) (kc + 1) (sl + N') (pc + 3) L (.ref (xg G n) :: st)) : XW l G R y cc ml rt K Z n M kc sl pc L (.int z :: st) := by
  intro p e s m args below meth c H locs ls hc hH hS hL
  have hK := hc.2.2.2.2.2.2.2.2.1.1
  have hAO : va_AO C s := by
    match t, ht, ht2 with
    | 0, _, h => cases h
    | 1, _, h => cases h
    | 2, _, h => cases h; exact hc.2.2.2.2.2.2.2.2.1.2.2.1
    | 3, _, h => cases h; exact hc.2.2.2.2.2.2.2.2.1.2.2.2.1
    | 4, _, h => cases h; exact hc.2.2.2.2.2.2.2.2.1.2.2.2.2
  have ht3 : (xtys G)[t]? = some (G.2.1 t, .object C) := by
    match t, ht, ht2 with
    | 0, _, h => cases h
    | 1, _, h => cases h
    | 2, _, h => cases h; rfl
    | 3, _, h => cases h; rfl
    | 4, _, h => cases h; rfl
  subst hN
  refine W.anew hc.1 hc.2.1 hc.2.2.2.2.2.1 (hc.2.2.2.2.2.2.2.1 _ hcl) (va_AO.use hAO) rfl hd rfl hn hbytes hcells hslots fun cA kA comp f1 f2 f3 f4 => ?_
  obtain ⟨kA', comp', k1, k2, k3, k4⟩ := (hK.2 t _ ht3).2
  have hcA : cA = G.2.1 t := Option.some.inj (f1.symm.trans k4)
  subst hcA
  generalize hH1 : H.push ({ cls := G.2.1 t, slots := Array.replicate z.toNatClampNeg .null, vm := .none } : Cell) = H1
  have z1 : H1.size = H.size + 1 := by rw [← hH1, Array.size_push]
  have e1 : H1[H.size]? = some (arrV (G.2.1 t) z.toNatClampNeg (fun _ => .null)) := by rw [← hH1, Array.getElem?_push_size, ← arrV_new]
  have o1 : ∀ q : Nat, q < H.size → H1[q]? = H[q]? := fun q hq => by rw [← hH1, Array.getElem?_push, if_neg (Nat.ne_of_lt hq)]
  have hx : H1[xg G n]? = some (vp_cell (G.2.1 t) (z.toNatClampNeg, .inr (.inr (.inr (.inr (fun _ => none)))))) := by
    rw [← hH.1, e1]
    rfl
  have h2 := kk p e s m args below meth c H1 locs ls hc (xH_push hH z1 o1 (show xat G n (.inl (.inl (t, z.toNatClampNeg, .inr (.inr (.inr (.inr (fun _ => none))))))) H1 from hx)) (xS_push hS z1 o1) hL
  rw [← hH.1] at h2
  exact h2
theorem X_new {ci N index : Nat} {C : String} {F : u_T} {fs : List Value} (ty : Nat → FieldType) (hty : ∀ k, k < N → parseFieldDescriptor (F k).2.2.1 = some (ty k)) (hcl : classes[ci]? = some (C, F, N)) (hin : ∀ w ∈ u_ws C F N, w ∈ xT) (hlk : Cond.classLink y.cls index C ∈ xT) (hinst : Cond.instantiable C N ∈ xT) (hini : Cond.initialized C ∈ xT) (hfs : ∀ j, j < N → defaultValue (ty j) = vp_V fs j) (hcells : kc + 1 ≤ R.cells) (hslots : sl + N ≤ R.slots) (hd : decode cc pc = .ok (.new index, 3)) (kk : XW l G R y cc ml rt K Z (n + 1) (xup M n (some (.inl (.inr (ci, fs))))) (kc + 1) (sl + N) (pc + 3) L (.ref (xg G n) :: st)) : XW l G R y cc ml rt K Z n M kc sl pc L st := by
  intro p e s m args below meth c H locs ls hc hH hS hL
  have hK := hc.2.2.2.2.2.2.2.2.1.1
  have hts := hc.2.2.2.2.2.2.2.1
  have hKn := hK.1 ci _ hcl
  refine W.newcK hc.1 hc.2.1 hc.2.2.2.2.2.1 (hts _ hlk) (hts _ hinst) (hts _ hini) rfl hd hcells hslots hKn.2.1 rfl fun H1 kC hkC e1 z1 o1 => ?_
  have hb0 := (u_born ty hts hin hKn hkC e1 hty).to hfs
  rw [hH.1] at hb0
  have hx : va_at G.1 classes (xg G n, .inr (ci, fs)) H1 := ⟨(C, F, N), hcl, hb0⟩
  have h2 := kk p e s m args below meth c H1 locs ls hc (xH_push (x := .inl (.inr (ci, fs))) hH z1 o1 hx) (xS_push hS z1 o1) hL
  rw [← hH.1] at h2
  exact h2
end XHEAP
