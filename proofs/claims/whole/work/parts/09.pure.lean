-- small words: booleans as ints, bounds
def xb (b : Bool) : Int32 := if b = true then 1 else 0
theorem xb_t : xb true = 1 := rfl
theorem xb_f : xb false = 0 := rfl
theorem xb_01 (b : Bool) : xb b = 0 ∨ xb b = 1 := by cases b <;> simp [xb]
theorem xb_nar (b : Bool) : narrow .boolean (.int (xb b)) = .int (xb b) := by cases b <;> rfl
theorem xb_eq0 (b : Bool) : xb b = 0 ↔ b = false := by cases b <;> decide
theorem xb_ne0 (b : Bool) : ¬ xb b = 0 ↔ b = true := by cases b <;> decide
theorem xb_1 : (1 : Int32) = xb true := rfl
theorem xb_0 : (0 : Int32) = xb false := rfl
theorem xRm {d mc ms : Nat} {n : Nat} (h : 1 ≤ d) (hs : n ≤ 8) : 1 ≤ (xR d mc ms).frames ∧ n + 13 ≤ (xR d mc ms).locals := by
  refine ⟨h, ?_⟩
  show _ ≤ 64 * d
  omega
theorem xtout (x : Int32) (lo hi : Int) (hr : -2147483648 ≤ lo ∧ hi < 2147483648) (h : ∀ k : Int, lo ≤ k → k ≤ hi → ¬ x = Int32.ofInt k) : x.toInt < lo ∨ hi < x.toInt := by
  rcases Int.lt_or_le x.toInt lo with q | q
  · exact Or.inl q
  · rcases Int.lt_or_le hi x.toInt with q2 | q2
    · exact Or.inr q2
    · exact absurd (Int32.ofInt_toInt x).symm (h _ q q2)
def xabs (v : Int32) : Int32 := if v < 0 then -v else v
theorem xabs_eq (x : Int32) : (if 0 ≤ x then x else 0 - x) = xabs x := by
  unfold xabs
  by_cases h : x < 0
  · rw [if_pos h, if_neg (Int32.not_le.mpr h), Int32.zero_sub]
  · rw [if_neg h, if_pos (Int32.not_lt.mp h)]
section XIFB
variable {l : Launch} {G : xG} {R : Room} {y : MethodName} {cc : ByteArray} {ml : Nat} {rt : Option FieldType} {K : Array Value → State → Prop} {Z : List Frame → Array Value → State → State → Prop} {n : Nat} {M : xM} {kc sl pc : Nat} {L : List (Nat × Value)} {st : List Value}
theorem X_ifb_eq {b : Bool} {off : Int} {tgt : Nat} (hd : decode cc pc = .ok (.ifCond .eq off, 3)) (ht : (pc : Int) + off = (tgt : Int)) (kt : b = false → XW l G R y cc ml rt K Z n M kc sl tgt L st) (kf : b = true → XW l G R y cc ml rt K Z n M kc sl (pc + 3) L st) : XW l G R y cc ml rt K Z n M kc sl pc L (.int (xb b) :: st) :=
  X_if_eq hd ht (fun h => kt ((xb_eq0 b).mp h)) (fun h => kf ((xb_ne0 b).mp h))
theorem X_ifb_ne {b : Bool} {off : Int} {tgt : Nat} (hd : decode cc pc = .ok (.ifCond .ne off, 3)) (ht : (pc : Int) + off = (tgt : Int)) (kt : b = true → XW l G R y cc ml rt K Z n M kc sl tgt L st) (kf : b = false → XW l G R y cc ml rt K Z n M kc sl (pc + 3) L st) : XW l G R y cc ml rt K Z n M kc sl pc L (.int (xb b) :: st) :=
  X_if_ne hd ht (fun h => kt ((xb_ne0 b).mp h)) (fun h => kf ((xb_eq0 b).mp h))
theorem X_mabsx {x : Int32} {idx : Nat} (hln : Cond.methodLink y.cls idx Lib.Math.abs.name ∈ xT) (hstat : Cond.static Lib.Math.abs.name ∈ xT) (hini : Cond.initialized "java/lang/Math" ∈ xT) (hcode : Cond.code Lib.Math.abs.name Lib.Math.abs.code 1 (some .int) ∈ xT) (hfr : 1 ≤ R.frames ∧ (st.map fun v => v.category).sum + 13 ≤ R.locals) (hcs : kc ≤ R.cells ∧ sl ≤ R.slots) (hd : decode cc pc = .ok (.invokestatic idx, 3)) (kk : XW l G R y cc ml rt K Z n M kc sl (pc + 3) L (.int (xabs x) :: st)) : XW l G R y cc ml rt K Z n M kc sl pc L (.int x :: st) :=
  X_mabs hln hstat hini hcode hfr hcs hd (by rw [xabs_eq]; exact kk)
end XIFB
-- what both programs count
def xin (v lo hi : Int32) : Bool := decide (lo ≤ v) && decide (v ≤ hi)
def xbd (v lo hi : Int32) : Int32 := if v < lo then lo else if hi < v then hi else v
def xhalf (v : Int32) : Int32 := v / 2
def kAbove (k : Int32) : Int32 := if k = 3 then 1 else if k = 4 then 2 else 0
def kOne (k w : Int32) : Bool := decide (w = k) || decide (w = 0) || decide (w = kAbove k)
def kBuilds (k said speed more : Int32) : Int32 := if k = 1 then said / 2 else if k = 3 then (if 4 < speed then said / 2 / 2 else said / 2) else if k = 2 ∨ k = 4 then (if said - 5 * more < 0 then 0 else said - 5 * more) else if k = 5 then said + speed * more else said
def kFades (k said : Int32) : Int32 := xbd (if k = 2 then said + 5 else if k = 4 then (said + 5) / 3 else said) 0 100
def kFalls (k more : Int32) : Int32 := if k = 1 ∨ k = 3 then 800 + 20 * more else if k = 4 then 400 else 800
def xnum (v least : Int32) : Bool := decide (0 ≤ v) && xin (v / 10) least 9 && xin (v - v / 10 * 10) 0 1
def xsp (v : Int32) : Bool := decide (0 < v) && xin (v / 10) 1 9 && xin (v - v / 10 * 10) 1 9
def xwsp (v : Int32) : Bool := decide (0 < v) && xin (v / 100) 0 60 && xsp (v - v / 100 * 100)
def xop (v : Int32) : Bool := decide (0 < v) && xin (v / 10) 0 100 && xin (v - v / 10 * 10) 1 9
def xss (v : Int32) : Bool := decide (0 < v) && xin (v / 100) 0 60 && xin (v - v / 100 * 100) 1 40
def xrace (n sp fw what : Int32) : Bool := xin n (-40) 40 && xsp sp && xin fw 1000 540999 && xin what 0 1
def xta (i : Int32) : Int32 := if i - i / 2 * 2 = 1 then (i + 1) / 2 else -(i / 2)
def xru (far pace : Int32) : Int32 := if pace < 1 then 0 else (far + pace - 1) / pace
def xname (nm : Int32) (f : Nat → Int32) (speed eyes : Int32) : Int32 := if nm = 0 then speed else if nm = 1 then f 3 else if nm = 2 then f 4 else if nm = 3 then f 1 else if nm = 4 then f 2 else eyes
def xtwo (s a b : Int32) : Int32 := if s = 11 then xb (decide (¬ a = 0) || decide (¬ b = 0)) else if s = 12 then xb (decide (¬ a = 0) && decide (¬ b = 0)) else if s = 14 then xb (decide (a < b)) else if s = 15 then xb (decide (a = b)) else if s = 16 then a + b else if s = 17 then a - b else a * b
