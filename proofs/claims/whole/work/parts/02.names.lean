-- names: classes, their fields in the order of declaration
def R_X : String := "RoundAndRound"
def F_X : u_T := fun k => match k with
  | 0 => ("RoundAndRound", "heads", "[LRoundAndRound$Head;", true)
  | 1 => ("RoundAndRound", "imageHeads", "[LRoundAndRound$Head;", true)
  | 2 => ("RoundAndRound", "thought", "LRoundAndRound$Head;", true)
  | 3 => ("RoundAndRound", "ahead", "LRoundAndRound$Head;", true)
  | 4 => ("RoundAndRound", "turnedSenses", "[I", true)
  | 5 => ("RoundAndRound", "texts", "[LRoundAndRound$Text;", true)
  | 6 => ("RoundAndRound", "noText", "LRoundAndRound$Text;", true)
  | 7 => ("RoundAndRound", "reader", "LRoundAndRound$Reader;", true)
  | 8 => ("RoundAndRound", "sheets", "[LRoundAndRound$Sheet;", true)
  | 9 => ("RoundAndRound", "noSheet", "LRoundAndRound$Sheet;", true)
  | 10 => ("RoundAndRound", "headCount", "I", false)
  | 11 => ("RoundAndRound", "textCount", "I", false)
  | 12 => ("RoundAndRound", "lawNumber", "I", false)
  | 13 => ("RoundAndRound", "imageCount", "I", false)
  | _ => ("RoundAndRound", "imageLaw", "I", false)
def t_X : Nat → FieldType := fun k => match k with
  | 0 => .array (.object "RoundAndRound$Head")
  | 1 => .array (.object "RoundAndRound$Head")
  | 2 => .object "RoundAndRound$Head"
  | 3 => .object "RoundAndRound$Head"
  | 4 => .array (.int)
  | 5 => .array (.object "RoundAndRound$Text")
  | 6 => .object "RoundAndRound$Text"
  | 7 => .object "RoundAndRound$Reader"
  | 8 => .array (.object "RoundAndRound$Sheet")
  | 9 => .object "RoundAndRound$Sheet"
  | 10 => .int
  | 11 => .int
  | 12 => .int
  | 13 => .int
  | _ => .int
theorem n_X : ∀ a, a < 15 → ∀ b, b < 15 → a ≠ b → (F_X a).2.1 ≠ (F_X b).2.1 := by decide +kernel
theorem t_X_ok : ∀ k, k < 15 → parseFieldDescriptor (F_X k).2.2.1 = some (t_X k) := by decide +kernel
def R_Head : String := "RoundAndRound$Head"
def F_Head : u_T := fun k => match k with
  | 0 => ("RoundAndRound$Head", "kind", "I", false)
  | 1 => ("RoundAndRound$Head", "more", "I", false)
  | 2 => ("RoundAndRound$Head", "sense", "I", false)
  | 3 => ("RoundAndRound$Head", "cake", "I", false)
  | 4 => ("RoundAndRound$Head", "used", "I", false)
  | 5 => ("RoundAndRound$Head", "along", "I", false)
  | 6 => ("RoundAndRound$Head", "aside", "I", false)
  | _ => ("RoundAndRound$Head", "down", "Z", false)
def t_Head : Nat → FieldType := fun k => match k with
  | 0 => .int
  | 1 => .int
  | 2 => .int
  | 3 => .int
  | 4 => .int
  | 5 => .int
  | 6 => .int
  | _ => .boolean
theorem n_Head : ∀ a, a < 8 → ∀ b, b < 8 → a ≠ b → (F_Head a).2.1 ≠ (F_Head b).2.1 := by decide +kernel
theorem t_Head_ok : ∀ k, k < 8 → parseFieldDescriptor (F_Head k).2.2.1 = some (t_Head k) := by decide +kernel
def R_Text : String := "RoundAndRound$Text"
def F_Text : u_T := fun k => match k with
  | 0 => ("RoundAndRound$Text", "code", "[I", true)
  | 1 => ("RoundAndRound$Text", "partEnds", "[I", true)
  | 2 => ("RoundAndRound$Text", "stack", "[I", true)
  | 3 => ("RoundAndRound$Text", "size", "I", false)
  | _ => ("RoundAndRound$Text", "parts", "I", false)
def t_Text : Nat → FieldType := fun k => match k with
  | 0 => .array (.int)
  | 1 => .array (.int)
  | 2 => .array (.int)
  | 3 => .int
  | _ => .int
theorem n_Text : ∀ a, a < 5 → ∀ b, b < 5 → a ≠ b → (F_Text a).2.1 ≠ (F_Text b).2.1 := by decide +kernel
theorem t_Text_ok : ∀ k, k < 5 → parseFieldDescriptor (F_Text k).2.2.1 = some (t_Text k) := by decide +kernel
def R_Reader : String := "RoundAndRound$Reader"
def F_Reader : u_T := fun k => match k with
  | 0 => ("RoundAndRound$Reader", "tape", "[I", true)
  | 1 => ("RoundAndRound$Reader", "words", "[J", true)
  | 2 => ("RoundAndRound$Reader", "size", "I", false)
  | 3 => ("RoundAndRound$Reader", "next", "I", false)
  | 4 => ("RoundAndRound$Reader", "place", "I", false)
  | 5 => ("RoundAndRound$Reader", "token", "I", false)
  | 6 => ("RoundAndRound$Reader", "number", "I", false)
  | 7 => ("RoundAndRound$Reader", "open", "I", false)
  | _ => ("RoundAndRound$Reader", "fault", "I", false)
def t_Reader : Nat → FieldType := fun k => match k with
  | 0 => .array (.int)
  | 1 => .array (.long)
  | 2 => .int
  | 3 => .int
  | 4 => .int
  | 5 => .int
  | 6 => .int
  | 7 => .int
  | _ => .int
theorem n_Reader : ∀ a, a < 9 → ∀ b, b < 9 → a ≠ b → (F_Reader a).2.1 ≠ (F_Reader b).2.1 := by decide +kernel
theorem t_Reader_ok : ∀ k, k < 9 → parseFieldDescriptor (F_Reader k).2.2.1 = some (t_Reader k) := by decide +kernel
def R_Sheet : String := "RoundAndRound$Sheet"
def F_Sheet : u_T := fun k => match k with
  | 0 => ("RoundAndRound$Sheet", "cells", "[I", true)
  | 1 => ("RoundAndRound$Sheet", "sort", "I", false)
  | _ => ("RoundAndRound$Sheet", "size", "I", false)
def t_Sheet : Nat → FieldType := fun k => match k with
  | 0 => .array (.int)
  | 1 => .int
  | _ => .int
theorem n_Sheet : ∀ a, a < 3 → ∀ b, b < 3 → a ≠ b → (F_Sheet a).2.1 ≠ (F_Sheet b).2.1 := by decide +kernel
theorem t_Sheet_ok : ∀ k, k < 3 → parseFieldDescriptor (F_Sheet k).2.2.1 = some (t_Sheet k) := by decide +kernel
def R_Model : String := "RoundAndRoundModel"
def F_Model : u_T := fun k => match k with
  | 0 => ("RoundAndRoundModel", "heads", "I", false)
  | 1 => ("RoundAndRoundModel", "kind", "[I", true)
  | 2 => ("RoundAndRoundModel", "moreOf", "[I", true)
  | 3 => ("RoundAndRoundModel", "rows", "[I", true)
  | 4 => ("RoundAndRoundModel", "tape", "[I", true)
  | 5 => ("RoundAndRoundModel", "taped", "I", false)
  | 6 => ("RoundAndRoundModel", "codes", "[I", true)
  | 7 => ("RoundAndRoundModel", "starts", "[I", true)
  | 8 => ("RoundAndRoundModel", "texts", "I", false)
  | 9 => ("RoundAndRoundModel", "rule", "I", false)
  | 10 => ("RoundAndRoundModel", "hasImage", "Z", false)
  | 11 => ("RoundAndRoundModel", "imageHeads", "I", false)
  | 12 => ("RoundAndRoundModel", "imageRule", "I", false)
  | 13 => ("RoundAndRoundModel", "imageRows", "[I", true)
  | 14 => ("RoundAndRoundModel", "sheetSort", "[I", true)
  | 15 => ("RoundAndRoundModel", "sheetSize", "[I", true)
  | 16 => ("RoundAndRoundModel", "cells", "[I", true)
  | 17 => ("RoundAndRoundModel", "law", "[I", true)
  | 18 => ("RoundAndRoundModel", "at", "I", false)
  | 19 => ("RoundAndRoundModel", "begun", "I", false)
  | 20 => ("RoundAndRoundModel", "token", "I", false)
  | 21 => ("RoundAndRoundModel", "value", "I", false)
  | 22 => ("RoundAndRoundModel", "words", "[I", true)
  | 23 => ("RoundAndRoundModel", "held", "[I", true)
  | 24 => ("RoundAndRoundModel", "heldMany", "I", false)
  | 25 => ("RoundAndRoundModel", "opens", "I", false)
  | 26 => ("RoundAndRoundModel", "out", "I", false)
  | 27 => ("RoundAndRoundModel", "stack", "[I", true)
  | 28 => ("RoundAndRoundModel", "named", "[I", true)
  | 29 => ("RoundAndRoundModel", "sense", "I", false)
  | 30 => ("RoundAndRoundModel", "along", "I", false)
  | 31 => ("RoundAndRoundModel", "aside", "I", false)
  | 32 => ("RoundAndRoundModel", "down", "Z", false)
  | _ => ("RoundAndRoundModel", "fellIn", "I", false)
def t_Model : Nat → FieldType := fun k => match k with
  | 0 => .int
  | 1 => .array (.int)
  | 2 => .array (.int)
  | 3 => .array (.int)
  | 4 => .array (.int)
  | 5 => .int
  | 6 => .array (.int)
  | 7 => .array (.int)
  | 8 => .int
  | 9 => .int
  | 10 => .boolean
  | 11 => .int
  | 12 => .int
  | 13 => .array (.int)
  | 14 => .array (.int)
  | 15 => .array (.int)
  | 16 => .array (.int)
  | 17 => .array (.int)
  | 18 => .int
  | 19 => .int
  | 20 => .int
  | 21 => .int
  | 22 => .array (.int)
  | 23 => .array (.int)
  | 24 => .int
  | 25 => .int
  | 26 => .int
  | 27 => .array (.int)
  | 28 => .array (.int)
  | 29 => .int
  | 30 => .int
  | 31 => .int
  | 32 => .boolean
  | _ => .int
theorem n_Model : ∀ a, a < 34 → ∀ b, b < 34 → a ≠ b → (F_Model a).2.1 ≠ (F_Model b).2.1 := by decide +kernel
theorem t_Model_ok : ∀ k, k < 34 → parseFieldDescriptor (F_Model k).2.2.1 = some (t_Model k) := by decide +kernel
abbrev classes : List vw_C := [(R_X, F_X, 15), (R_Head, F_Head, 8), (R_Text, F_Text, 5), (R_Reader, F_Reader, 9), (R_Sheet, F_Sheet, 3), (R_Model, F_Model, 34)]
abbrev xT : List Cond := lw_tbl.filter goodWord
theorem xT_in {w : Cond} (h : w ∈ xT) : w ∈ lw_tbl := (List.mem_filter.mp h).1
theorem xT_of {w : Cond} (i : Nat) (h : lw_tbl[i]? = some w) (g : goodWord w = true) : w ∈ xT := List.mem_filter.mpr ⟨List.mem_of_getElem? h, g⟩
theorem i_X : ∀ w ∈ u_ws R_X F_X 15, w ∈ xT := by decide +kernel
theorem i_Head : ∀ w ∈ u_ws R_Head F_Head 8, w ∈ xT := by decide +kernel
theorem i_Text : ∀ w ∈ u_ws R_Text F_Text 5, w ∈ xT := by decide +kernel
theorem i_Reader : ∀ w ∈ u_ws R_Reader F_Reader 9, w ∈ xT := by decide +kernel
theorem i_Sheet : ∀ w ∈ u_ws R_Sheet F_Sheet 3, w ∈ xT := by decide +kernel
theorem i_Model : ∀ w ∈ u_ws R_Model F_Model 34, w ∈ xT := by decide +kernel
