-- the second layer: the shape Y of the memory stays, its ints are I (address, place)
abbrev xS : Type := (Nat × List (Option Nat)) ⊕ (Nat ⊕ (Nat × List Nat) ⊕ List Int64 ⊕ Nat)
def xfs (G : xG) : List (Option Nat) → Nat → (Nat → Int32) → List Value
  | [], _, _ => []
  | none :: t, j, f => .int (f j) :: xfs G t (j + 1) f
  | some r :: t, j, f => .ref (xg G r) :: xfs G t (j + 1) f
/-- a cell whose ints are unknown: an int array of length n, below 1000; else a HEAD -/
def xvg (G : xG) (n : Nat) (f : Nat → Int32) : xA := if n < 1000 then .inl (0, n, .inl f) else .inr (1, xfs G [none, none, none, none, none, none, none, none] 0 f)
theorem xvg_a (G : xG) {n : Nat} (h : n < 1000) (f : Nat → Int32) : xvg G n f = .inl (0, n, .inl f) := if_pos h
theorem xvg_h (G : xG) (f : Nat → Int32) : xvg G 1000 f = .inr (1, xfs G [none, none, none, none, none, none, none, none] 0 f) := rfl
def xcell (G : xG) (sh : xS) (f : Nat → Int32) : xE := match sh with
  | .inl (ci, t) => .inl (.inr (ci, xfs G t 0 f))
  | .inr (.inl n) => .inl (.inl (0, n, .inl f))
  | .inr (.inr (.inl (k, rs))) => .inl (.inl (k, rs.length, .inr (.inr (.inr (.inr (fun j => (rs[j]?).map (xg G)))))))
  | .inr (.inr (.inr (.inl ls))) => .inl (.inl (1, ls.length, .inr (.inl (fun j => ls.getD j 0))))
  | .inr (.inr (.inr (.inr n))) => .inr (xvg G n)
abbrev xY : Type := Nat → Option xS
abbrev xI : Type := Nat → Nat → Int32
def xm (G : xG) (Y : xY) (I : xI) : xM := fun k => (Y k).map (fun sh => xcell G sh (I k))
def xw (I : xI) (a k : Nat) (v : Int32) : xI := xup I a (xup (I a) k v)
theorem xw_s (I : xI) (a k : Nat) (v : Int32) : xw I a k v a k = v := by rw [xw, xup_s, xup_s]
theorem xw_k (I : xI) (a : Nat) {k k' : Nat} (v : Int32) (h : k' ≠ k) : xw I a k v a k' = I a k' := by rw [xw, xup_s, xup_n _ _ h]
theorem xw_a (I : xI) {a a' : Nat} (k k' : Nat) (v : Int32) (h : a' ≠ a) : xw I a k v a' k' = I a' k' := by rw [xw, xup_n _ _ h]
theorem xw_row (I : xI) {a a' : Nat} (k : Nat) (v : Int32) (h : a' ≠ a) : xw I a k v a' = I a' := by rw [xw, xup_n _ _ h]
theorem xw_self (I : xI) (a k : Nat) : xw I a k (I a k) = I := by rw [xw, xup_self, xup_self]
theorem xw_up (I : xI) (a k : Nat) (v w : Int32) : xw (xw I a k v) a k w = xw I a k w := by rw [xw, xw, xw, xup_up, xup_s, xup_up]
theorem xw_is (I : xI) (a k : Nat) (v : Int32) : xw I a k v = xup I a (xup (I a) k v) := rfl
theorem xfs_len (G : xG) (f : Nat → Int32) : ∀ (t : List (Option Nat)) (j : Nat), (xfs G t j f).length = t.length
  | [], _ => rfl
  | none :: t, j => by rw [xfs, List.length_cons, List.length_cons, xfs_len G f t]
  | some r :: t, j => by rw [xfs, List.length_cons, List.length_cons, xfs_len G f t]
theorem xfs_int (G : xG) (f : Nat → Int32) : ∀ (t : List (Option Nat)) (j k : Nat), t[k]? = some none → (xfs G t j f)[k]? = some (.int (f (j + k)))
  | [], _, _, h => by cases h
  | none :: t, j, 0, _ => rfl
  | some r :: t, j, 0, h => by cases h
  | none :: t, j, k + 1, h => by
    rw [xfs, List.getElem?_cons_succ, xfs_int G f t (j + 1) k (by simpa using h), Nat.add_assoc, Nat.add_comm 1 k]
  | some r :: t, j, k + 1, h => by
    rw [xfs, List.getElem?_cons_succ, xfs_int G f t (j + 1) k (by simpa using h), Nat.add_assoc, Nat.add_comm 1 k]
theorem xfs_ref (G : xG) (f : Nat → Int32) {r : Nat} : ∀ (t : List (Option Nat)) (j k : Nat), t[k]? = some (some r) → (xfs G t j f)[k]? = some (.ref (xg G r))
  | [], _, _, h => by cases h
  | none :: t, j, 0, h => by cases h
  | some r' :: t, j, 0, h => by cases h; rfl
  | none :: t, j, k + 1, h => by
    rw [xfs, List.getElem?_cons_succ, xfs_ref G f t (j + 1) k (by simpa using h)]
  | some r' :: t, j, k + 1, h => by
    rw [xfs, List.getElem?_cons_succ, xfs_ref G f t (j + 1) k (by simpa using h)]
theorem xfs_cong (G : xG) {f g : Nat → Int32} : ∀ (t : List (Option Nat)) (j : Nat), (∀ k, j ≤ k → f k = g k) → xfs G t j f = xfs G t j g
  | [], _, _ => rfl
  | none :: t, j, h => by rw [xfs, xfs, h j (Nat.le_refl j), xfs_cong G t (j + 1) (fun k hk => h k (by omega))]
  | some r :: t, j, h => by rw [xfs, xfs, xfs_cong G t (j + 1) (fun k hk => h k (by omega))]
theorem xfs_set (G : xG) (v : Int32) : ∀ (t : List (Option Nat)) (j k : Nat) (f : Nat → Int32), t[k]? = some none → (xfs G t j f).set k (.int v) = xfs G t j (xup f (j + k) v)
  | [], _, _, _, h => by cases h
  | none :: t, j, 0, f, _ => by
    show Value.int v :: xfs G t (j + 1) f = Value.int (xup f j v j) :: xfs G t (j + 1) (xup f j v)
    rw [xup_s, xfs_cong G t (j + 1) (fun k hk => (xup_n f v (show k ≠ j by omega)).symm)]
  | some r :: t, j, 0, f, h => by cases h
  | none :: t, j, k + 1, f, h => by
    rw [xfs, xfs, List.set_cons_succ, xfs_set G v t (j + 1) k f (by simpa using h), xup_n f v (show j ≠ j + (k + 1) by omega), Nat.add_assoc, Nat.add_comm 1 k]
  | some r :: t, j, k + 1, f, h => by
    rw [xfs, xfs, List.set_cons_succ, xfs_set G v t (j + 1) k f (by simpa using h), Nat.add_assoc, Nat.add_comm 1 k]
theorem xm_up {G : xG} {Y : xY} {I : xI} {a : Nat} {sh : xS} {f : Nat → Int32} (hY : Y a = some sh) : xup (xm G Y I) a (some (xcell G sh f)) = xm G Y (xup I a f) := by
  funext k
  by_cases h : k = a
  · subst h
    rw [xup_s, xm, hY, xup_s]
    rfl
  · rw [xup_n _ _ h, xm, xm, xup_n _ _ h]
section XINTS
variable {l : Launch} {G : xG} {R : Room} {y : MethodName} {cc : ByteArray} {ml : Nat} {rt : Option FieldType} {K : Array Value → State → Prop} {Z : List Frame → Array Value → State → State → Prop} {n : Nat} {Y : xY} {I : xI} {kc sl pc : Nat} {L : List (Nat × Value)} {st : List Value}
theorem xm_obj {a ci : Nat} {t : List (Option Nat)} (hY : Y a = some (.inl (ci, t))) : xm G Y I a = some (.inl (.inr (ci, xfs G t 0 (I a)))) := by rw [xm, hY]; rfl
theorem xm_arr {a N : Nat} (hY : Y a = some (.inr (.inl N))) : xm G Y I a = some (.inl (.inl (0, N, .inl (I a)))) := by rw [xm, hY]; rfl
theorem xm_vag {a N : Nat} (hY : Y a = some (.inr (.inr (.inr (.inr N))))) : xm G Y I a = some (.inr (xvg G N)) := by rw [xm, hY]; rfl
theorem xm_refs {a k : Nat} {rs : List Nat} (hY : Y a = some (.inr (.inr (.inl (k, rs))))) : xm G Y I a = some (.inl (.inl (k, rs.length, .inr (.inr (.inr (.inr (fun j => (rs[j]?).map (xg G)))))))) := by rw [xm, hY]; rfl
theorem xm_longs {a : Nat} {ls : List Int64} (hY : Y a = some (.inr (.inr (.inr (.inl ls))))) : xm G Y I a = some (.inl (.inl (1, ls.length, .inr (.inl (fun j => ls.getD j 0))))) := by rw [xm, hY]; rfl
theorem X_getI {a ci k index : Nat} {t : List (Option Nat)} {v : Int32} (hw : xFL y.cls index ci k) (hY : Y a = some (.inl (ci, t))) (ht : t[k]? = some none) (hv : I a k = v) (hd : decode cc pc = .ok (.getfield index, 3)) (kk : XW l G R y cc ml rt K Z n (xm G Y I) kc sl (pc + 3) L (.int v :: st)) : XW l G R y cc ml rt K Z n (xm G Y I) kc sl pc L (.ref (xg G a) :: st) :=
  X_getfield k hw (xm_obj hY) (by rw [xfs_int G (I a) t 0 k ht, Nat.zero_add, hv]) hd kk
theorem X_getR {a ci k index r : Nat} {t : List (Option Nat)} (hw : xFL y.cls index ci k) (hY : Y a = some (.inl (ci, t))) (ht : t[k]? = some (some r)) (hd : decode cc pc = .ok (.getfield index, 3)) (kk : XW l G R y cc ml rt K Z n (xm G Y I) kc sl (pc + 3) L (.ref (xg G r) :: st)) : XW l G R y cc ml rt K Z n (xm G Y I) kc sl pc L (.ref (xg G a) :: st) :=
  X_getfield k hw (xm_obj hY) (xfs_ref G (I a) t 0 k ht) hd kk
theorem X_putI {a ci k index : Nat} {t : List (Option Nat)} {v : Int32} (hw : xFP y.cls index ci k .int false) (hY : Y a = some (.inl (ci, t))) (ht : t[k]? = some none) (hd : decode cc pc = .ok (.putfield index, 3)) (kk : XW l G R y cc ml rt K Z n (xm G Y (xw I a k v)) kc sl (pc + 3) L st) : XW l G R y cc ml rt K Z n (xm G Y I) kc sl pc L (.int v :: .ref (xg G a) :: st) := by
  refine X_putfield k hw (xm_obj hY) rfl rfl (by rw [xfs_len]; exact (List.getElem?_eq_some_iff.mp ht).1) hd ?_
  have e : xup (xm G Y I) a (some (.inl (.inr (ci, (xfs G t 0 (I a)).set k (.int v))))) = xm G Y (xw I a k v) := by
    rw [xfs_set G v t 0 k (I a) ht, Nat.zero_add]
    exact xm_up (sh := .inl (ci, t)) hY
  rw [e]
  exact kk
theorem X_putZ {a ci k index : Nat} {t : List (Option Nat)} {v : Int32} (hw : xFP y.cls index ci k .boolean false) (hY : Y a = some (.inl (ci, t))) (ht : t[k]? = some none) (hv : v = 0 ∨ v = 1) (hd : decode cc pc = .ok (.putfield index, 3)) (kk : XW l G R y cc ml rt K Z n (xm G Y (xw I a k v)) kc sl (pc + 3) L st) : XW l G R y cc ml rt K Z n (xm G Y I) kc sl pc L (.int v :: .ref (xg G a) :: st) := by
  refine X_putfield k hw (xm_obj hY) (by rcases hv with rfl | rfl <;> rfl) (by rcases hv with rfl | rfl <;> rfl) (by rw [xfs_len]; exact (List.getElem?_eq_some_iff.mp ht).1) hd ?_
  have e : xup (xm G Y I) a (some (.inl (.inr (ci, (xfs G t 0 (I a)).set k (.int v))))) = xm G Y (xw I a k v) := by
    rw [xfs_set G v t 0 k (I a) ht, Nat.zero_add]
    exact xm_up (sh := .inl (ci, t)) hY
  rw [e]
  exact kk
theorem X_aldI {a N : Nat} {i v : Int32} (hY : Y a = some (.inr (.inl N))) (hin : vp_in i N) (hv : I a i.toNatClampNeg = v) (hd : decode cc pc = .ok (.iaload, 1)) (kk : XW l G R y cc ml rt K Z n (xm G Y I) kc sl (pc + 1) L (.int v :: st)) : XW l G R y cc ml rt K Z n (xm G Y I) kc sl pc L (.int i :: .ref (xg G a) :: st) :=
  X_iald (xm_arr hY) hin hd (by rw [hv]; exact kk)
theorem X_astI {a N : Nat} {i x : Int32} (hY : Y a = some (.inr (.inl N))) (hin : vp_in i N) (hd : decode cc pc = .ok (.iastore, 1)) (kk : XW l G R y cc ml rt K Z n (xm G Y (xw I a i.toNatClampNeg x)) kc sl (pc + 1) L st) : XW l G R y cc ml rt K Z n (xm G Y I) kc sl pc L (.int x :: .int i :: .ref (xg G a) :: st) := by
  refine X_iast (xm_arr hY) hin hd ?_
  have e : xup (xm G Y I) a (some (.inl (.inl (0, N, .inl (xup (I a) i.toNatClampNeg x))))) = xm G Y (xw I a i.toNatClampNeg x) := xm_up (sh := .inr (.inl N)) hY
  rw [e]
  exact kk
theorem X_aldL {a : Nat} {ls : List Int64} {i : Int32} {v : Int64} (hY : Y a = some (.inr (.inr (.inr (.inl ls))))) (hin : vp_in i ls.length) (hv : ls.getD i.toNatClampNeg 0 = v) (hd : decode cc pc = .ok (.laload, 1)) (kk : XW l G R y cc ml rt K Z n (xm G Y I) kc sl (pc + 1) L (.long v :: st)) : XW l G R y cc ml rt K Z n (xm G Y I) kc sl pc L (.int i :: .ref (xg G a) :: st) :=
  X_lald (xm_longs hY) hin hd (by rw [hv]; exact kk)
theorem X_aldR {a t r : Nat} {rs : List Nat} {C : String} {i : Int32} (ht : xty[t]? = some (.object C)) (hY : Y a = some (.inr (.inr (.inl (t, rs))))) (hin : vp_in i rs.length) (hr : rs[i.toNatClampNeg]? = some r) (hd : decode cc pc = .ok (.aaload, 1)) (kk : XW l G R y cc ml rt K Z n (xm G Y I) kc sl (pc + 1) L (.ref (xg G r) :: st)) : XW l G R y cc ml rt K Z n (xm G Y I) kc sl pc L (.int i :: .ref (xg G a) :: st) :=
  X_aald ht (xm_refs hY) hin hd (by rw [hr]; exact kk)
theorem X_alenI {a N : Nat} {v : Int32} (hY : Y a = some (.inr (.inl N))) (hv : Int32.ofNat N = v) (hd : decode cc pc = .ok (.arraylength, 1)) (kk : XW l G R y cc ml rt K Z n (xm G Y I) kc sl (pc + 1) L (.int v :: st)) : XW l G R y cc ml rt K Z n (xm G Y I) kc sl pc L (.ref (xg G a) :: st) :=
  X_alen (t := 0) (by decide) (xm_arr hY) hv hd kk
theorem X_alenR {a t : Nat} {rs : List Nat} {v : Int32} (ht : t < 5) (hY : Y a = some (.inr (.inr (.inl (t, rs))))) (hv : Int32.ofNat rs.length = v) (hd : decode cc pc = .ok (.arraylength, 1)) (kk : XW l G R y cc ml rt K Z n (xm G Y I) kc sl (pc + 1) L (.int v :: st)) : XW l G R y cc ml rt K Z n (xm G Y I) kc sl pc L (.ref (xg G a) :: st) :=
  X_alen ht (xm_refs hY) hv hd kk
theorem X_alenL {a : Nat} {ls : List Int64} {v : Int32} (hY : Y a = some (.inr (.inr (.inr (.inl ls))))) (hv : Int32.ofNat ls.length = v) (hd : decode cc pc = .ok (.arraylength, 1)) (kk : XW l G R y cc ml rt K Z n (xm G Y I) kc sl (pc + 1) L (.int v :: st)) : XW l G R y cc ml rt K Z n (xm G Y I) kc sl pc L (.ref (xg G a) :: st) :=
  X_alen (t := 1) (by decide) (xm_longs hY) hv hd kk
theorem xm_Yup {a N : Nat} {f : Nat → Int32} : xup (xm G Y I) a (some (.inl (.inl (0, N, .inl f)))) = xm G (xup Y a (some (.inr (.inl N)))) (xup I a f) := by
  funext k
  by_cases h : k = a
  · subst h
    rw [xup_s, xm, xup_s, xup_s]
    rfl
  · rw [xup_n _ _ h, xm, xm, xup_n _ _ h, xup_n _ _ h]
/-- an int array whose contents are unknown holds something -/
theorem X_knowI {a N : Nat} (hN : N < 1000) (hY : Y a = some (.inr (.inr (.inr (.inr N))))) (kk : ∀ f : Nat → Int32, XW l G R y cc ml rt K Z n (xm G (xup Y a (some (.inr (.inl N)))) (xup I a f)) kc sl pc L st) : XW l G R y cc ml rt K Z n (xm G Y I) kc sl pc L st := by
  refine X_know (xm_vag hY) (fun f => ?_)
  rw [xvg_a G hN, xm_Yup]
  exact kk f
theorem xm_Yobj {a ci : Nat} {t : List (Option Nat)} {f : Nat → Int32} : xup (xm G Y I) a (some (.inl (.inr (ci, xfs G t 0 f)))) = xm G (xup Y a (some (.inl (ci, t)))) (xup I a f) := by
  funext k
  by_cases h : k = a
  · subst h
    rw [xup_s, xm, xup_s, xup_s]
    rfl
  · rw [xup_n _ _ h, xm, xm, xup_n _ _ h, xup_n _ _ h]
/-- so does a HEAD; behind its numbers stand zeros -/
theorem X_knowH {a : Nat} (hY : Y a = some (.inr (.inr (.inr (.inr 1000))))) (kk : ∀ f : Nat → Int32, (∀ j, 8 ≤ j → f j = 0) → XW l G R y cc ml rt K Z n (xm G (xup Y a (some (.inl (1, [none, none, none, none, none, none, none, none])))) (xup I a f)) kc sl pc L st) : XW l G R y cc ml rt K Z n (xm G Y I) kc sl pc L st := by
  refine X_know (xm_vag hY) (fun f => ?_)
  rw [xvg_h]
  have e : xfs G [none, none, none, none, none, none, none, none] 0 f = xfs G [none, none, none, none, none, none, none, none] 0 (fun j => if j < 8 then f j else 0) := rfl
  rw [e, xm_Yobj]
  exact kk _ (fun j hj => if_neg (by omega))
end XINTS
/-- .. and what it holds may be forgotten -/
theorem xle_fg {G : xG} {Y Y' : xY} {I I' : xI} (h : ∀ k, (Y' k = Y k ∧ I k = I' k) ∨ (∃ N, Y k = some (.inr (.inl N)) ∧ N < 1000 ∧ Y' k = some (.inr (.inr (.inr (.inr N))))) ∨ (Y k = some (.inl (1, [none, none, none, none, none, none, none, none])) ∧ Y' k = some (.inr (.inr (.inr (.inr 1000))))) ∨ (∃ N, Y k = some (.inr (.inr (.inr (.inr N)))) ∧ Y' k = some (.inr (.inr (.inr (.inr N)))))) : xle (xm G Y I) (xm G Y' I') := by
  intro G' n H hH
  refine ⟨hH.1, fun k hk => ?_, fun k x hx => ?_⟩
  · have h0 := hH.2.1 k hk
    have hY : Y k = none := by
      cases hy : Y k with
      | none => rfl
      | some sh => rw [xm, hy] at h0; cases h0
    rcases h k with ⟨h1, -⟩ | ⟨N, h1, -⟩ | ⟨h1, -⟩ | ⟨N, h1, -⟩
    · rw [xm, h1, hY]; rfl
    · rw [hY] at h1; cases h1
    · rw [hY] at h1; cases h1
    · rw [hY] at h1; cases h1
  · rcases h k with ⟨h1, h2⟩ | ⟨N, h1, h3, h2⟩ | ⟨h1, h2⟩ | ⟨N, h1, h2⟩
    · refine hH.2.2 k x ?_
      rw [xm, h1, ← h2] at hx
      exact hx
    · rw [xm_vag h2] at hx
      have hz : x = .inr (xvg G N) := (Option.some.inj hx).symm
      subst hz
      refine ⟨I k, ?_⟩
      rw [xvg_a G h3]
      exact hH.2.2 k _ (xm_arr h1)
    · rw [xm_vag h2] at hx
      have hz : x = .inr (xvg G 1000) := (Option.some.inj hx).symm
      subst hz
      refine ⟨I k, ?_⟩
      rw [xvg_h]
      exact hH.2.2 k _ (xm_obj h1)
    · rw [xm_vag h2] at hx
      have hz : x = .inr (xvg G N) := (Option.some.inj hx).symm
      subst hz
      exact hH.2.2 k _ (xm_vag h1)
