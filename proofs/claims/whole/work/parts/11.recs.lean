-- the shapes of the class' objects; what a HEAD's numbers (0 kind, 1 more, 2 sense, 3 cake, 4 used, 5 along, 6 aside, 7 down) become; S: what a text says (part, speed, eyes, of whom)
abbrev sHead : xS := .inl (1, [none, none, none, none, none, none, none, none])
abbrev sText (t : Nat) : xS := .inl (2, [some (t + 1), some (t + 2), some (t + 3), none, none])
abbrev sSheet (t : Nat) : xS := .inl (4, [some (t + 1), none, none])
abbrev sReader (t w : Nat) : xS := .inl (3, [some t, some w, none, none, none, none, none, none, none])
abbrev sInts (n : Nat) : xS := .inr (.inl n)
abbrev sVague (n : Nat) : xS := .inr (.inr (.inr (.inr n)))
abbrev xSay : Type := Int32 → Int32 → Int32 → (Nat → Int32) → Int32
theorem xw_rec (I : xI) (a k : Nat) (f : Nat → Int32) (v : Int32) : xw (xup I a f) a k v = xup I a (xup f k v) := by rw [xw, xup_s, xup_up]
def hStd (f : Nat → Int32) : Nat → Int32 := xup (xup (xup f 5 0) 6 0) 7 0
def hBegin (k m : Int32) (f : Nat → Int32) : Nat → Int32 := hStd (xup (xup (xup (xup (xup f 0 k) 1 m) 2 0) 3 0) 4 0)
def hBe (g f : Nat → Int32) : Nat → Int32 := xup (xup (xup (xup (xup (xup (xup (xup f 0 (g 0)) 1 (g 1)) 2 (g 2)) 3 (g 3)) 4 (g 4)) 5 (g 5)) 6 (g 6)) 7 (g 7)
def hMust (f : Nat → Int32) : Bool := decide (kFalls (f 0) (f 1) ≤ xabs (f 2))
def hFade (S : xSay) (eyes : Int32) (f : Nat → Int32) : Nat → Int32 := xup f 2 (f 2 - f 2 * kFades (f 0) (S 1 0 eyes f) / 100)
def hSpin1 (S : xSay) (speed side : Int32) (f : Nat → Int32) : Nat → Int32 := hFade S 1 (xup f 2 (xbd (f 2 + side * kBuilds (f 0) (S 0 speed 1 f) speed (f 1)) (-9999) 9999))
def hSpinN (S : xSay) (speed side : Int32) : Nat → (Nat → Int32) → Nat → Int32
  | 0, f => f
  | k + 1, f => hSpin1 S speed side (hSpinN S speed side k f)
def hLing (S : xSay) (eyes : Int32) : Nat → (Nat → Int32) → Nat → Int32
  | 0, f => f
  | k + 1, f => hFade S eyes (hLing S eyes k f)
def hStep (S : xSay) (pace eyes : Int32) (f : Nat → Int32) : Nat → Int32 := if f 7 = 0 then (if hMust f = true then xup f 7 1 else hFade S eyes (xup (xup f 5 (xbd (f 5 + pace) (-99999) 99999)) 6 (xbd (f 6 + f 2 * S 2 pace eyes f / 1000) (-99999) 99999))) else xup f 7 1
def hGo (S : xSay) (pace eyes : Int32) : Nat → (Nat → Int32) → Nat → Int32
  | 0, f => f
  | k + 1, f => hGo S pace eyes k (hStep S pace eyes f)
/-- in which second, counted from i on, one falls; -1: in none of k *-/
def hFall (S : xSay) (pace eyes : Int32) : Nat → Nat → (Nat → Int32) → Int32
  | 0, _, _ => -1
  | k + 1, i, f => if f 7 = 0 then (if (hStep S pace eyes f) 7 = 0 then hFall S pace eyes k (i + 1) (hStep S pace eyes f) else nI i) else -1
def hSide (n : Int32) : Int32 := if 0 < n then 1 else -1
theorem hFade_7 (S : xSay) (eyes : Int32) (f : Nat → Int32) : hFade S eyes f 7 = f 7 := xup_n _ _ (by decide)
theorem hStep_7 (S : xSay) (pace eyes : Int32) (f : Nat → Int32) (h : f 7 = 0 ∨ f 7 = 1) : hStep S pace eyes f 7 = 0 ∨ hStep S pace eyes f 7 = 1 := by
  unfold hStep
  by_cases h7 : f 7 = 0
  · rw [if_pos h7]
    by_cases hm : hMust f = true
    · rw [if_pos hm]; exact Or.inr (xup_s _ _ _)
    · rw [if_neg hm, hFade_7, xup_n _ _ (show (7 : Nat) ≠ 6 by decide), xup_n _ _ (show (7 : Nat) ≠ 5 by decide)]
      exact h
  · rw [if_neg h7]; exact Or.inr (xup_s _ _ _)
theorem hStep_down (S : xSay) (pace eyes : Int32) (f : Nat → Int32) (h : f 7 = 1) : hStep S pace eyes f = f := by
  unfold hStep
  rw [if_neg (by rw [h]; decide)]
  funext j
  by_cases hj : j = 7
  · subst hj; rw [xup_s, h]
  · rw [xup_n _ _ hj]
theorem hGo_down (S : xSay) (pace eyes : Int32) (k : Nat) (f : Nat → Int32) (h : f 7 = 1) : hGo S pace eyes k f = f := by
  induction k with
  | zero => rfl
  | succ k ih => rw [hGo, hStep_down S pace eyes f h, ih]
-- TEXTS: a part is a list of codes, each behind what it works on: below 6 a NAME, 11 or, 12 and, 13 not, 14 <, 15 =, 16 +, 17 -, 18 *, 19 - ahead of ONE, from 100000 on a NUMBER
def tLeaf (c : Int32) : Bool := (decide (0 ≤ c) && decide (c < 6)) || (decide (100000 ≤ c) && decide (c < 110000))
def tUn (c : Int32) : Bool := decide (c = 13) || decide (c = 19)
def tBin (c : Int32) : Bool := decide (c = 11) || decide (c = 12) || (decide (14 ≤ c) && decide (c ≤ 18))
/-- as the class writes it -/
def tCode (c : Int32) : Int32 := if c < 11 then 10000 + c else if 100000 ≤ c then c - 100000 else if c = 13 then 30000 else if c = 19 then 30001 else if c < 13 then 20000 + (c - 11) else 20000 + (c - 12)
def tVal (c : Int32) (f : Nat → Int32) (speed eyes : Int32) : Int32 := if c < 11 then xname c f speed eyes else c - 100000
def tOne (c a : Int32) : Int32 := if c = 13 then xb (decide (a = 0)) else -a
def tPut (f : Nat → Int32) (speed eyes c : Int32) (st : List Int32) : List Int32 := if tLeaf c = true then tVal c f speed eyes :: st else if tUn c = true then (match st with | a :: t => tOne c a :: t | [] => []) else (match st with | b :: a :: t => xtwo c a b :: t | _ => [])
def tRun (f : Nat → Int32) (speed eyes : Int32) : List Int32 → List Int32 → List Int32
  | [], st => st
  | c :: cs, st => tRun f speed eyes cs (tPut f speed eyes c st)
theorem gD_l (a b : List Int32) {k : Nat} (h : k < a.length) : (a ++ b).getD k 0 = a.getD k 0 := by
  rw [List.getD_eq_getElem?_getD, List.getD_eq_getElem?_getD, List.getElem?_append_left h]
theorem gD_r (a b : List Int32) {k : Nat} (h : a.length ≤ k) : (a ++ b).getD k 0 = b.getD (k - a.length) 0 := by
  rw [List.getD_eq_getElem?_getD, List.getD_eq_getElem?_getD, List.getElem?_append_right h]
/-- so many stand on the stack: the list leaves one, and 40 are never passed -/
def tDep : List Int32 → Nat → Bool
  | [], n => decide (n = 1)
  | c :: cs, n => if tLeaf c = true then decide (n < 40) && tDep cs (n + 1) else if tUn c = true then decide (1 ≤ n) && tDep cs n else tBin c && decide (2 ≤ n) && tDep cs (n - 1)
def tEval (P : List Int32) (f : Nat → Int32) (speed eyes : Int32) : Int32 := (tRun f speed eyes P []).headD 0
def tSay (P : Nat → List Int32) : xSay := fun part speed eyes f => xbd (tEval (P part.toNatClampNeg) f speed eyes) 0 (if part = 1 then 100 else 999)
def tAll (P : Nat → List Int32) : List Int32 := P 0 ++ (P 1 ++ P 2)
/-- the codes of a text lie in the class' memory -/
def xTx (Y : xY) (I : xI) (t : Nat) (S : xSay) : Prop := (Y t = some (sText t) ∧ Y (t + 1) = some (sInts 160) ∧ Y (t + 2) = some (sInts 3) ∧ Y (t + 3) = some (sVague 40)) ∧ ∃ P : Nat → List Int32, S = tSay P ∧ I t 4 = 3 ∧ (tAll P).length ≤ 160 ∧ I (t + 2) 0 = nI (P 0).length ∧ I (t + 2) 1 = nI ((P 0).length + (P 1).length) ∧ I (t + 2) 2 = nI ((P 0).length + (P 1).length + (P 2).length) ∧ (∀ j, j < (tAll P).length → I (t + 1) j = tCode ((tAll P).getD j 0)) ∧ tDep (P 0) 0 = true ∧ tDep (P 1) 0 = true ∧ tDep (P 2) 0 = true
theorem xTx_kept {Y : xY} {I I' : xI} {t : Nat} {S : xSay} (h : xTx Y I t S) (h0 : I' t = I t) (h1 : I' (t + 1) = I (t + 1)) (h2 : I' (t + 2) = I (t + 2)) : xTx Y I' t S := by
  obtain ⟨hY, P, g⟩ := h
  refine ⟨hY, P, ?_⟩
  rw [h0, h1, h2]
  exact g
theorem xTx_up {Y : xY} {I : xI} {t h : Nat} {S : xSay} {f : Nat → Int32} (hT : xTx Y I t S) (hh : Y h = some sHead) : xTx Y (xup I h f) t S := by
  have e0 := hT.1.1
  have e1 := hT.1.2.1
  have e2 := hT.1.2.2.1
  refine xTx_kept hT (xup_n _ _ ?_) (xup_n _ _ ?_) (xup_n _ _ ?_)
  · intro q; rw [q, hh] at e0; cases e0
  · intro q; rw [q, hh] at e1; cases e1
  · intro q; rw [q, hh] at e2; cases e2
def hSpin (S : xSay) (n speed : Int32) (f : Nat → Int32) : Nat → Int32 := hSpinN S speed (hSide n) (xabs n).toNatClampNeg f
theorem nI_cl {T : Nat} (h : T < 2 ^ 31) : (nI T).toNatClampNeg = T := nI_clamp h
theorem nI_done {i T : Nat} (hi : i ≤ T) (hT : T < 2 ^ 31) (c : nI T ≤ nI i) : i = T := by
  have := (nI_leI hT (by omega)).mp c
  omega
theorem nI_more {i T : Nat} (hi : i ≤ T) (hT : T < 2 ^ 31) (c : ¬ nI T ≤ nI i) : i < T := by
  rcases Nat.lt_or_ge i T with q | q
  · exact q
  · exact absurd (nI_le q (by omega)) c
theorem xloop {Q : Nat → Prop} {T : Nat} (h : ∀ i, i ≤ T → (i < T → Q (i + 1)) → Q i) : ∀ i, i ≤ T → Q i := by
  have key : ∀ k i, i + k = T → Q i := by
    intro k
    induction k with
    | zero => intro i hi; exact h i (by omega) (fun q => by omega)
    | succ k ih => intro i hi; exact h i (by omega) (fun _ => ih (i + 1) (by omega))
  intro i hi
  exact key (T - i) i (by omega)
theorem xvp {x B : Int32} {N : Nat} (h0 : 0 ≤ x) (h1 : x < B) (hB : B.toInt ≤ (N : Int)) : vp_in x N := by
  rw [vp_in_iff]
  have a := Int32.le_iff_toInt_le.mp h0
  have b := Int32.lt_iff_toInt_lt.mp h1
  rw [Int32.toInt_zero] at a
  omega
def xpe (I : xI) (t : Nat) (p : Int32) : Int32 := if 0 ≤ p ∧ p < I t 4 ∧ p < 3 then I (t + 2) p.toNatClampNeg else 0
def xnamC (nm : Int32) (f : Nat → Int32) (speed eyes : Int32) : Int32 := if nm = 10000 then speed else if nm = 10001 then f 3 else if nm = 10002 then f 4 else if nm = 10003 then f 1 else if nm = 10004 then f 2 else eyes
def xjoin (op a b : Int32) : Int32 := if op = 20000 then xb (decide (¬ a = 0) || decide (¬ b = 0)) else if op = 20001 then xb (decide (¬ a = 0) && decide (¬ b = 0)) else if op = 20002 then xb (decide (a < b)) else if op = 20003 then xb (decide (a = b)) else if op = 20004 then a + b else if op = 20005 then a - b else a * b
/-- the stack, its top first, as it lies in an array -/
def tSt (g : Nat → Int32) (st : List Int32) : Prop := ∀ k, k < st.length → g (st.length - 1 - k) = st.getD k 0
theorem tSt_push {g : Nat → Int32} {st : List Int32} (h : tSt g st) (v : Int32) : tSt (xup g st.length v) (v :: st) := by
  intro k hk
  rw [List.length_cons] at hk ⊢
  cases k with
  | zero => exact xup_s _ _ _
  | succ k =>
    rw [xup_n _ _ (by omega), List.getD_cons_succ, ← h k (by omega)]
    congr 1
    omega
theorem tSt_top {g : Nat → Int32} {a : Int32} {st : List Int32} (h : tSt g (a :: st)) : g st.length = a := by
  have := h 0 (by simp)
  simpa using this
theorem tSt_tl {g : Nat → Int32} {a : Int32} {st : List Int32} (h : tSt g (a :: st)) : tSt g st := by
  intro k hk
  have := h (k + 1) (by rw [List.length_cons]; omega)
  rw [List.getD_cons_succ] at this
  rw [← this, List.length_cons]
  congr 1
  omega
theorem xnam_c {c : Int32} (h0 : 0 ≤ c) (h6 : c < 6) (f : Nat → Int32) (speed eyes : Int32) : xnamC (10000 + c) f speed eyes = xname c f speed eyes := by
  have : c = 0 ∨ c = 1 ∨ c = 2 ∨ c = 3 ∨ c = 4 ∨ c = 5 := by grind
  rcases this with rfl | rfl | rfl | rfl | rfl | rfl <;> rfl
theorem xjoin_c {c : Int32} (h : tBin c = true) (a b : Int32) : xjoin (tCode c) a b = xtwo c a b := by
  have : c = 11 ∨ c = 12 ∨ c = 14 ∨ c = 15 ∨ c = 16 ∨ c = 17 ∨ c = 18 := by
    simp [tBin] at h
    grind
  rcases this with rfl | rfl | rfl | rfl | rfl | rfl | rfl <;> simp [xjoin, xtwo, tCode]
theorem tCode_bin {c : Int32} (h : tBin c = true) : 20000 ≤ tCode c ∧ tCode c < 30000 := by
  have : c = 11 ∨ c = 12 ∨ c = 14 ∨ c = 15 ∨ c = 16 ∨ c = 17 ∨ c = 18 := by
    simp [tBin] at h
    grind
  rcases this with rfl | rfl | rfl | rfl | rfl | rfl | rfl <;> decide
theorem tUn_of {c : Int32} (h : tUn c = true) : c = 13 ∨ c = 19 := by simpa [tUn] using h
theorem tLeaf_of {c : Int32} (h : tLeaf c = true) : (0 ≤ c ∧ c < 6 ∧ tCode c = 10000 + c) ∨ (100000 ≤ c ∧ c < 110000 ∧ tCode c = c - 100000) := by
  simp [tLeaf] at h
  rcases h with ⟨h1, h2⟩ | ⟨h1, h2⟩
  · exact Or.inl ⟨h1, h2, by rw [tCode, if_pos (by grind)]⟩
  · exact Or.inr ⟨h1, h2, by rw [tCode, if_neg (by grind), if_pos h1]⟩
