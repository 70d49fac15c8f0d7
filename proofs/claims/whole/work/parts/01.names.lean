theorem goodIn_r {big : List Cond} (ws : List Cond) (ps : List Nat) (hp : ws = ps.filterMap (fun i => big[i]?)) (h : ws.all goodWord = true) : GoodIn big ws := by
  intro w hw
  have h1 := List.all_eq_true.mp h w hw
  rw [hp] at hw
  obtain ⟨i, -, hi⟩ := List.mem_filterMap.mp hw
  have hm : w ∈ big := by first | exact List.mem_of_getElem? hi | exact List.getElem?_mem hi
  exact ⟨hm, good_of_word h1⟩
theorem goodIn_app {big a b : List Cond} (ha : GoodIn big a) (hb : GoodIn big b) : GoodIn big (a ++ b) := fun w h => (List.mem_append.mp h).elim (ha w) (hb w)
theorem goodIn_ca {big a b : List Cond} {c : Cond} (ha : GoodIn big (c :: a)) (hb : GoodIn big b) : GoodIn big (c :: (a ++ b)) := fun w h => (List.mem_cons.mp h).elim (fun e => ha w (List.mem_cons.mpr (Or.inl e))) (fun h => (List.mem_append.mp h).elim (fun h => ha w (List.mem_cons.mpr (Or.inr h))) (hb w))
theorem goodIn_sub {big ws : List Cond} (hm : ∀ w ∈ ws, w ∈ big) (h : ws.all goodWord = true) : GoodIn big ws := fun w hw => ⟨hm w hw, good_of_word (List.all_eq_true.mp h w hw)⟩
def RX0 : String := "CodeQuiz$Machine"
def TX0 : u_T := fun k => match k with
  | 0 => ("CodeQuiz$Machine", "variables", "[I", true)
  | 1 => ("CodeQuiz$Machine", "cells", "[I", true)
  | 2 => ("CodeQuiz$Machine", "rowStarts", "[I", true)
  | 3 => ("CodeQuiz$Machine", "timesDone", "[I", true)
  | 4 => ("CodeQuiz$Machine", "roundsLeft", "[J", true)
  | 5 => ("CodeQuiz$Machine", "slips", "I", false)
  | 6 => ("CodeQuiz$Machine", "linesKnown", "I", false)
  | 7 => ("CodeQuiz$Machine", "steps", "I", false)
  | _ => ("CodeQuiz$Machine", "spent", "Z", false)
def tyX0 : Nat → FieldType := fun k => match k with
  | 0 => .array .int
  | 1 => .array .int
  | 2 => .array .int
  | 3 => .array .int
  | 4 => .array .long
  | 5 => .int
  | 6 => .int
  | 7 => .int
  | _ => .boolean
abbrev wsX00 : List Cond := u_ws RX0 TX0 9
theorem nmX0 : ∀ a, a < 9 → ∀ b, b < 9 → a ≠ b → (TX0 a).2.1 ≠ (TX0 b).2.1 := by decide +kernel
theorem tyX0_ok : ∀ k, k < 9 → parseFieldDescriptor (TX0 k).2.2.1 = some (tyX0 k) := by decide +kernel
abbrev cX0_init : ByteArray := prog_2_method_1_code
def yX0_init : MethodName := ⟨RX0, "<init>", "()V"⟩
abbrev cX0_perform : ByteArray := prog_2_method_2_code
def yX0_perform : MethodName := ⟨RX0, "perform", "(LCodeQuiz$Program;II)V"⟩
abbrev cX0_begin : ByteArray := prog_2_method_3_code
def yX0_begin : MethodName := ⟨RX0, "begin", "(I)V"⟩
abbrev cX0_has : ByteArray := prog_2_method_4_code
def yX0_has : MethodName := ⟨RX0, "has", "(I)Z"⟩
abbrev cX0_doLine : ByteArray := prog_2_method_5_code
def yX0_doLine : MethodName := ⟨RX0, "doLine", "(LCodeQuiz$Program;I)I"⟩
abbrev cX0_enterLoop : ByteArray := prog_2_method_6_code
def yX0_enterLoop : MethodName := ⟨RX0, "enterLoop", "(IIZ)Z"⟩
abbrev cX0_isLess : ByteArray := prog_2_method_7_code
def yX0_isLess : MethodName := ⟨RX0, "isLess", "(IIZ)Z"⟩
abbrev cX0_goesRound : ByteArray := prog_2_method_8_code
def yX0_goesRound : MethodName := ⟨RX0, "goesRound", "(LCodeQuiz$Program;I)Z"⟩
abbrev cX0_placeOf : ByteArray := prog_2_method_9_code
def yX0_placeOf : MethodName := ⟨RX0, "placeOf", "(II)I"⟩
abbrev cX0_doShare : ByteArray := prog_2_method_10_code
def yX0_doShare : MethodName := ⟨RX0, "doShare", "(IIZ)V"⟩
abbrev cX0_cellOf : ByteArray := prog_2_method_11_code
def yX0_cellOf : MethodName := ⟨RX0, "cellOf", "(I)I"⟩
abbrev cX0_namesShare : ByteArray := prog_2_method_12_code
def yX0_namesShare : MethodName := ⟨RX0, "namesShare", "()Z"⟩
abbrev cX0_answerTo : ByteArray := prog_2_method_13_code
def yX0_answerTo : MethodName := ⟨RX0, "answerTo", "(II)I"⟩
abbrev cX0_endsWithVariablesOf : ByteArray := prog_2_method_14_code
def yX0_endsWithVariablesOf : MethodName := ⟨RX0, "endsWithVariablesOf", "(LCodeQuiz$Machine;)Z"⟩
abbrev cX0_endsLike : ByteArray := prog_2_method_15_code
def yX0_endsLike : MethodName := ⟨RX0, "endsLike", "(LCodeQuiz$Machine;)Z"⟩
def RX1 : String := "CodeQuiz$Program"
def TX1 : u_T := fun k => match k with
  | 0 => ("CodeQuiz$Program", "ops", "[I", true)
  | 1 => ("CodeQuiz$Program", "xs", "[I", true)
  | 2 => ("CodeQuiz$Program", "ys", "[I", true)
  | 3 => ("CodeQuiz$Program", "depths", "[I", true)
  | 4 => ("CodeQuiz$Program", "mates", "[I", true)
  | 5 => ("CodeQuiz$Program", "openLines", "[I", true)
  | 6 => ("CodeQuiz$Program", "openCount", "I", false)
  | 7 => ("CodeQuiz$Program", "size", "I", false)
  | _ => ("CodeQuiz$Program", "asked", "Z", false)
def tyX1 : Nat → FieldType := fun k => match k with
  | 0 => .array .int
  | 1 => .array .int
  | 2 => .array .int
  | 3 => .array .int
  | 4 => .array .int
  | 5 => .array .int
  | 6 => .int
  | 7 => .int
  | _ => .boolean
abbrev wsX10 : List Cond := u_ws RX1 TX1 9
theorem nmX1 : ∀ a, a < 9 → ∀ b, b < 9 → a ≠ b → (TX1 a).2.1 ≠ (TX1 b).2.1 := by decide +kernel
theorem tyX1_ok : ∀ k, k < 9 → parseFieldDescriptor (TX1 k).2.2.1 = some (tyX1 k) := by decide +kernel
abbrev cX1_init : ByteArray := prog_3_method_1_code
def yX1_init : MethodName := ⟨RX1, "<init>", "()V"⟩
abbrev cX1_hasLine : ByteArray := prog_3_method_2_code
def yX1_hasLine : MethodName := ⟨RX1, "hasLine", "(I)Z"⟩
abbrev cX1_isWhole : ByteArray := prog_3_method_3_code
def yX1_isWhole : MethodName := ⟨RX1, "isWhole", "()Z"⟩
abbrev cX1_append : ByteArray := prog_3_method_4_code
def yX1_append : MethodName := ⟨RX1, "append", "(III)I"⟩
def RX2 : String := "CodeQuiz$Pupil"
def TX2 : u_T := fun k => match k with
  | 0 => ("CodeQuiz$Pupil", "values", "[I", true)
  | _ => ("CodeQuiz$Pupil", "answered", "J", false)
def tyX2 : Nat → FieldType := fun k => match k with
  | 0 => .array .int
  | _ => .long
abbrev wsX20 : List Cond := u_ws RX2 TX2 2
theorem nmX2 : ∀ a, a < 2 → ∀ b, b < 2 → a ≠ b → (TX2 a).2.1 ≠ (TX2 b).2.1 := by decide +kernel
theorem tyX2_ok : ∀ k, k < 2 → parseFieldDescriptor (TX2 k).2.2.1 = some (tyX2 k) := by decide +kernel
abbrev cX2_init : ByteArray := prog_4_method_1_code
def yX2_init : MethodName := ⟨RX2, "<init>", "()V"⟩
abbrev cX2_hasAnswered : ByteArray := prog_4_method_2_code
def yX2_hasAnswered : MethodName := ⟨RX2, "hasAnswered", "(I)Z"⟩
abbrev cX2_note : ByteArray := prog_4_method_3_code
def yX2_note : MethodName := ⟨RX2, "note", "(II)I"⟩
def RX3 : String := "CodeQuiz$Question"
def TX3 : u_T := fun k => match k with
  | 0 => ("CodeQuiz$Question", "program", "LCodeQuiz$Program;", true)
  | 1 => ("CodeQuiz$Question", "input", "I", true)
  | 2 => ("CodeQuiz$Question", "kind", "I", true)
  | 3 => ("CodeQuiz$Question", "what", "I", true)
  | 4 => ("CodeQuiz$Question", "answers", "[I", true)
  | _ => ("CodeQuiz$Question", "known", "J", false)
def tyX3 : Nat → FieldType := fun k => match k with
  | 0 => .object "CodeQuiz$Program"
  | 1 => .int
  | 2 => .int
  | 3 => .int
  | 4 => .array .int
  | _ => .long
abbrev wsX30 : List Cond := u_ws RX3 TX3 6
theorem nmX3 : ∀ a, a < 6 → ∀ b, b < 6 → a ≠ b → (TX3 a).2.1 ≠ (TX3 b).2.1 := by decide +kernel
theorem tyX3_ok : ∀ k, k < 6 → parseFieldDescriptor (TX3 k).2.2.1 = some (tyX3 k) := by decide +kernel
abbrev cX3_init : ByteArray := prog_5_method_1_code
def yX3_init : MethodName := ⟨RX3, "<init>", "(LCodeQuiz$Program;III)V"⟩
abbrev cX3_knows : ByteArray := prog_5_method_2_code
def yX3_knows : MethodName := ⟨RX3, "knows", "(I)Z"⟩
abbrev cX3_keep : ByteArray := prog_5_method_3_code
def yX3_keep : MethodName := ⟨RX3, "keep", "(II)V"⟩
def RX4 : String := "CodeQuiz"
def TX4 : u_T := fun k => match k with
  | 0 => ("CodeQuiz", "programs", "[LCodeQuiz$Program;", true)
  | 1 => ("CodeQuiz", "questions", "[LCodeQuiz$Question;", true)
  | 2 => ("CodeQuiz", "pupils", "[LCodeQuiz$Pupil;", true)
  | 3 => ("CodeQuiz", "prices", "[I", true)
  | 4 => ("CodeQuiz", "latest", "LCodeQuiz$Machine;", true)
  | 5 => ("CodeQuiz", "first", "LCodeQuiz$Machine;", true)
  | 6 => ("CodeQuiz", "second", "LCodeQuiz$Machine;", true)
  | 7 => ("CodeQuiz", "choiceValues", "[I", true)
  | 8 => ("CodeQuiz", "choiceSlips", "[I", true)
  | 9 => ("CodeQuiz", "setAnswers", "[I", true)
  | 10 => ("CodeQuiz", "partedPairs", "[I", true)
  | 11 => ("CodeQuiz", "programCount", "I", false)
  | 12 => ("CodeQuiz", "questionCount", "I", false)
  | 13 => ("CodeQuiz", "lineCount", "I", false)
  | 14 => ("CodeQuiz", "hasRun", "Z", false)
  | 15 => ("CodeQuiz", "latestChoicesQuestion", "I", false)
  | 16 => ("CodeQuiz", "latestChoicesCount", "I", false)
  | _ => ("CodeQuiz", "latestFillings", "J", false)
def tyX4 : Nat → FieldType := fun k => match k with
  | 0 => .array (.object "CodeQuiz$Program")
  | 1 => .array (.object "CodeQuiz$Question")
  | 2 => .array (.object "CodeQuiz$Pupil")
  | 3 => .array .int
  | 4 => .object "CodeQuiz$Machine"
  | 5 => .object "CodeQuiz$Machine"
  | 6 => .object "CodeQuiz$Machine"
  | 7 => .array .int
  | 8 => .array .int
  | 9 => .array .int
  | 10 => .array .int
  | 11 => .int
  | 12 => .int
  | 13 => .int
  | 14 => .boolean
  | 15 => .int
  | 16 => .int
  | _ => .long
abbrev wsX40 : List Cond := u_ws RX4 TX4 18
theorem nmX4 : ∀ a, a < 18 → ∀ b, b < 18 → a ≠ b → (TX4 a).2.1 ≠ (TX4 b).2.1 := by decide +kernel
theorem tyX4_ok : ∀ k, k < 18 → parseFieldDescriptor (TX4 k).2.2.1 = some (tyX4 k) := by decide +kernel
abbrev cX4_init : ByteArray := prog_1_method_1_code
def yX4_init : MethodName := ⟨RX4, "<init>", "()V"⟩
abbrev cX4_program : ByteArray := prog_1_method_2_code
def yX4_program : MethodName := ⟨RX4, "program", "()I"⟩
abbrev cX4_line : ByteArray := prog_1_method_3_code
def yX4_line : MethodName := ⟨RX4, "line", "(IIII)I"⟩
abbrev cX4_about : ByteArray := prog_1_method_4_code
def yX4_about : MethodName := ⟨RX4, "about", "(III)I"⟩
abbrev cX4_whole : ByteArray := prog_1_method_5_code
def yX4_whole : MethodName := ⟨RX4, "whole", "(I)I"⟩
abbrev cX4_run : ByteArray := prog_1_method_6_code
def yX4_run : MethodName := ⟨RX4, "run", "(III)I"⟩
abbrev cX4_told : ByteArray := prog_1_method_7_code
def yX4_told : MethodName := ⟨RX4, "told", "(I)I"⟩
abbrev cX4_done : ByteArray := prog_1_method_8_code
def yX4_done : MethodName := ⟨RX4, "done", "(I)I"⟩
abbrev cX4_question : ByteArray := prog_1_method_9_code
def yX4_question : MethodName := ⟨RX4, "question", "(IIII)I"⟩
abbrev cX4_answer : ByteArray := prog_1_method_10_code
def yX4_answer : MethodName := ⟨RX4, "answer", "(II)I"⟩
abbrev cX4_choices : ByteArray := prog_1_method_11_code
def yX4_choices : MethodName := ⟨RX4, "choices", "(II)I"⟩
abbrev cX4_choice : ByteArray := prog_1_method_12_code
def yX4_choice : MethodName := ⟨RX4, "choice", "(II)I"⟩
abbrev cX4_gap : ByteArray := prog_1_method_13_code
def yX4_gap : MethodName := ⟨RX4, "gap", "(II)I"⟩
abbrev cX4_filling : ByteArray := prog_1_method_14_code
def yX4_filling : MethodName := ⟨RX4, "filling", "(I)I"⟩
abbrev cX4_why : ByteArray := prog_1_method_15_code
def yX4_why : MethodName := ⟨RX4, "why", "(II)I"⟩
abbrev cX4_same : ByteArray := prog_1_method_16_code
def yX4_same : MethodName := ⟨RX4, "same", "(II)I"⟩
abbrev cX4_give : ByteArray := prog_1_method_17_code
def yX4_give : MethodName := ⟨RX4, "give", "(III)I"⟩
abbrev cX4_price : ByteArray := prog_1_method_18_code
def yX4_price : MethodName := ⟨RX4, "price", "(II)I"⟩
abbrev cX4_cost : ByteArray := prog_1_method_19_code
def yX4_cost : MethodName := ⟨RX4, "cost", "(II)I"⟩
abbrev cX4_sets : ByteArray := prog_1_method_20_code
def yX4_sets : MethodName := ⟨RX4, "sets", "(I)I"⟩
abbrev cX4_set : ByteArray := prog_1_method_21_code
def yX4_set : MethodName := ⟨RX4, "set", "(II)I"⟩
abbrev cX4_next : ByteArray := prog_1_method_22_code
def yX4_next : MethodName := ⟨RX4, "next", "(I)I"⟩
abbrev cX4_parting : ByteArray := prog_1_method_23_code
def yX4_parting : MethodName := ⟨RX4, "parting", "()I"⟩
abbrev cX4_count : ByteArray := prog_1_method_24_code
def yX4_count : MethodName := ⟨RX4, "count", "(I)I"⟩
abbrev cX4_programAt : ByteArray := prog_1_method_25_code
def yX4_programAt : MethodName := ⟨RX4, "programAt", "(I)LCodeQuiz$Program;"⟩
abbrev cX4_questionAt : ByteArray := prog_1_method_26_code
def yX4_questionAt : MethodName := ⟨RX4, "questionAt", "(I)LCodeQuiz$Question;"⟩
abbrev cX4_isPupil : ByteArray := prog_1_method_27_code
def yX4_isPupil : MethodName := ⟨RX4, "isPupil", "(I)Z"⟩
abbrev cX4_isInput : ByteArray := prog_1_method_28_code
def yX4_isInput : MethodName := ⟨RX4, "isInput", "(I)Z"⟩
abbrev cX4_isMachine : ByteArray := prog_1_method_29_code
def yX4_isMachine : MethodName := ⟨RX4, "isMachine", "(I)Z"⟩
abbrev cX4_isVariable : ByteArray := prog_1_method_30_code
def yX4_isVariable : MethodName := ⟨RX4, "isVariable", "(I)Z"⟩
abbrev cX4_isCell : ByteArray := prog_1_method_31_code
def yX4_isCell : MethodName := ⟨RX4, "isCell", "(I)Z"⟩
abbrev cX4_isName : ByteArray := prog_1_method_32_code
def yX4_isName : MethodName := ⟨RX4, "isName", "(I)Z"⟩
abbrev cX4_fitsOp : ByteArray := prog_1_method_33_code
def yX4_fitsOp : MethodName := ⟨RX4, "fitsOp", "(III)Z"⟩
abbrev cX4_isAskable : ByteArray := prog_1_method_34_code
def yX4_isAskable : MethodName := ⟨RX4, "isAskable", "(LCodeQuiz$Program;II)Z"⟩
abbrev cX4_answerBy : ByteArray := prog_1_method_35_code
def yX4_answerBy : MethodName := ⟨RX4, "answerBy", "(LCodeQuiz$Question;I)I"⟩
abbrev cX4_listChoices : ByteArray := prog_1_method_36_code
def yX4_listChoices : MethodName := ⟨RX4, "listChoices", "(LCodeQuiz$Question;)I"⟩
abbrev cX4_isListed : ByteArray := prog_1_method_37_code
def yX4_isListed : MethodName := ⟨RX4, "isListed", "(II)Z"⟩
abbrev cX4_singleMachine : ByteArray := prog_1_method_38_code
def yX4_singleMachine : MethodName := ⟨RX4, "singleMachine", "(I)I"⟩
abbrev cX4_findFillings : ByteArray := prog_1_method_39_code
def yX4_findFillings : MethodName := ⟨RX4, "findFillings", "(LCodeQuiz$Program;I)J"⟩
abbrev cX4_fillingsThatEndAlike : ByteArray := prog_1_method_40_code
def yX4_fillingsThatEndAlike : MethodName := ⟨RX4, "fillingsThatEndAlike", "(LCodeQuiz$Program;IIJ)J"⟩
abbrev cX4_costOf : ByteArray := prog_1_method_41_code
def yX4_costOf : MethodName := ⟨RX4, "costOf", "(LCodeQuiz$Pupil;I)I"⟩
abbrev cX4_findSets : ByteArray := prog_1_method_42_code
def yX4_findSets : MethodName := ⟨RX4, "findSets", "(LCodeQuiz$Pupil;)J"⟩
abbrev cX4_listSetAnswers : ByteArray := prog_1_method_43_code
def yX4_listSetAnswers : MethodName := ⟨RX4, "listSetAnswers", "(LCodeQuiz$Question;J)I"⟩
abbrev cX4_mostAlike : ByteArray := prog_1_method_44_code
def yX4_mostAlike : MethodName := ⟨RX4, "mostAlike", "(I)I"⟩
abbrev cX4_pairsParted : ByteArray := prog_1_method_45_code
def yX4_pairsParted : MethodName := ⟨RX4, "pairsParted", "(LCodeQuiz$Question;)I"⟩
abbrev cX4_partsAll : ByteArray := prog_1_method_46_code
def yX4_partsAll : MethodName := ⟨RX4, "partsAll", "(I)Z"⟩
abbrev cX4_hasBit : ByteArray := prog_1_method_47_code
def yX4_hasBit : MethodName := ⟨RX4, "hasBit", "(JI)Z"⟩
abbrev cX4_bitAt : ByteArray := prog_1_method_48_code
def yX4_bitAt : MethodName := ⟨RX4, "bitAt", "(JI)I"⟩
def RX5 : String := "CodeQuizModel"
def TX5 : u_T := fun k => match k with
  | 0 => ("CodeQuizModel", "op", "[I", true)
  | 1 => ("CodeQuizModel", "x", "[I", true)
  | 2 => ("CodeQuizModel", "y", "[I", true)
  | 3 => ("CodeQuizModel", "many", "[I", true)
  | 4 => ("CodeQuizModel", "programs", "I", false)
  | 5 => ("CodeQuizModel", "variable", "[I", true)
  | 6 => ("CodeQuizModel", "cells", "[I", true)
  | 7 => ("CodeQuizModel", "rowOf", "[I", true)
  | 8 => ("CodeQuizModel", "left", "[J", true)
  | 9 => ("CodeQuizModel", "times", "[I", true)
  | 10 => ("CodeQuizModel", "steps", "I", false)
  | 11 => ("CodeQuizModel", "isSpent", "Z", false)
  | 12 => ("CodeQuizModel", "told", "[I", true)
  | 13 => ("CodeQuizModel", "toldTimes", "[I", true)
  | 14 => ("CodeQuizModel", "toldLines", "I", false)
  | 15 => ("CodeQuizModel", "ofProgram", "[I", true)
  | 16 => ("CodeQuizModel", "input", "[I", true)
  | 17 => ("CodeQuizModel", "kind", "[I", true)
  | 18 => ("CodeQuizModel", "about", "[I", true)
  | 19 => ("CodeQuizModel", "questions", "I", false)
  | 20 => ("CodeQuizModel", "choiceValue", "[I", true)
  | 21 => ("CodeQuizModel", "choiceSlip", "[I", true)
  | 22 => ("CodeQuizModel", "choiceMany", "I", false)
  | 23 => ("CodeQuizModel", "filling", "[I", true)
  | 24 => ("CodeQuizModel", "fillingMany", "I", false)
  | 25 => ("CodeQuizModel", "kept", "[I", true)
  | 26 => ("CodeQuizModel", "hasGiven", "[Z", true)
  | 27 => ("CodeQuizModel", "given", "[I", true)
  | 28 => ("CodeQuizModel", "price", "[I", true)
  | 29 => ("CodeQuizModel", "sets", "[I", true)
  | 30 => ("CodeQuizModel", "setMany", "I", false)
  | 31 => ("CodeQuizModel", "answers", "[I", true)
  | _ => ("CodeQuizModel", "table", "[I", true)
def tyX5 : Nat → FieldType := fun k => match k with
  | 0 => .array .int
  | 1 => .array .int
  | 2 => .array .int
  | 3 => .array .int
  | 4 => .int
  | 5 => .array .int
  | 6 => .array .int
  | 7 => .array .int
  | 8 => .array .long
  | 9 => .array .int
  | 10 => .int
  | 11 => .boolean
  | 12 => .array .int
  | 13 => .array .int
  | 14 => .int
  | 15 => .array .int
  | 16 => .array .int
  | 17 => .array .int
  | 18 => .array .int
  | 19 => .int
  | 20 => .array .int
  | 21 => .array .int
  | 22 => .int
  | 23 => .array .int
  | 24 => .int
  | 25 => .array .int
  | 26 => .array .boolean
  | 27 => .array .int
  | 28 => .array .int
  | 29 => .array .int
  | 30 => .int
  | 31 => .array .int
  | _ => .array .int
abbrev wsX50 : List Cond := u_ws RX5 TX5 33
theorem nmX5 : ∀ a, a < 33 → ∀ b, b < 33 → a ≠ b → (TX5 a).2.1 ≠ (TX5 b).2.1 := by decide +kernel
theorem tyX5_ok : ∀ k, k < 33 → parseFieldDescriptor (TX5 k).2.2.1 = some (tyX5 k) := by decide +kernel
abbrev cX5_init : ByteArray := prog_7_method_1_code
def yX5_init : MethodName := ⟨RX5, "<init>", "()V"⟩
abbrev cX5_within : ByteArray := prog_7_method_2_code
def yX5_within : MethodName := ⟨RX5, "within", "(III)Z"⟩
abbrev cX5_isProgram : ByteArray := prog_7_method_3_code
def yX5_isProgram : MethodName := ⟨RX5, "isProgram", "(I)Z"⟩
abbrev cX5_isQuestion : ByteArray := prog_7_method_4_code
def yX5_isQuestion : MethodName := ⟨RX5, "isQuestion", "(I)Z"⟩
abbrev cX5_program : ByteArray := prog_7_method_5_code
def yX5_program : MethodName := ⟨RX5, "program", "()I"⟩
abbrev cX5_mayBe : ByteArray := prog_7_method_6_code
def yX5_mayBe : MethodName := ⟨RX5, "mayBe", "(III)Z"⟩
abbrev cX5_openAhead : ByteArray := prog_7_method_7_code
def yX5_openAhead : MethodName := ⟨RX5, "openAhead", "(II)I"⟩
abbrev cX5_line : ByteArray := prog_7_method_8_code
def yX5_line : MethodName := ⟨RX5, "line", "(IIII)I"⟩
abbrev cX5_about : ByteArray := prog_7_method_9_code
def yX5_about : MethodName := ⟨RX5, "about", "(III)I"⟩
abbrev cX5_isWhole : ByteArray := prog_7_method_10_code
def yX5_isWhole : MethodName := ⟨RX5, "isWhole", "(I)Z"⟩
abbrev cX5_whole : ByteArray := prog_7_method_11_code
def yX5_whole : MethodName := ⟨RX5, "whole", "(I)I"⟩
abbrev cX5_endOf : ByteArray := prog_7_method_12_code
def yX5_endOf : MethodName := ⟨RX5, "endOf", "(II)I"⟩
abbrev cX5_beginOf : ByteArray := prog_7_method_13_code
def yX5_beginOf : MethodName := ⟨RX5, "beginOf", "(II)I"⟩
abbrev cX5_has : ByteArray := prog_7_method_14_code
def yX5_has : MethodName := ⟨RX5, "has", "(II)Z"⟩
abbrev cX5_runLines : ByteArray := prog_7_method_15_code
def yX5_runLines : MethodName := ⟨RX5, "runLines", "(IIIII)V"⟩
abbrev cX5_doLine : ByteArray := prog_7_method_16_code
def yX5_doLine : MethodName := ⟨RX5, "doLine", "(IIII)I"⟩
abbrev cX5_ended : ByteArray := prog_7_method_17_code
def yX5_ended : MethodName := ⟨RX5, "ended", "(II)I"⟩
abbrev cX5_rows : ByteArray := prog_7_method_18_code
def yX5_rows : MethodName := ⟨RX5, "rows", "(IIII)V"⟩
abbrev cX5_end : ByteArray := prog_7_method_19_code
def yX5_end : MethodName := ⟨RX5, "end", "(I)I"⟩
abbrev cX5_run : ByteArray := prog_7_method_20_code
def yX5_run : MethodName := ⟨RX5, "run", "(III)I"⟩
abbrev cX5_told : ByteArray := prog_7_method_21_code
def yX5_told : MethodName := ⟨RX5, "told", "(I)I"⟩
abbrev cX5_done : ByteArray := prog_7_method_22_code
def yX5_done : MethodName := ⟨RX5, "done", "(I)I"⟩
abbrev cX5_question : ByteArray := prog_7_method_23_code
def yX5_question : MethodName := ⟨RX5, "question", "(IIII)I"⟩
abbrev cX5_answerOf : ByteArray := prog_7_method_24_code
def yX5_answerOf : MethodName := ⟨RX5, "answerOf", "(II)I"⟩
abbrev cX5_answer : ByteArray := prog_7_method_25_code
def yX5_answer : MethodName := ⟨RX5, "answer", "(II)I"⟩
abbrev cX5_choices : ByteArray := prog_7_method_26_code
def yX5_choices : MethodName := ⟨RX5, "choices", "(II)I"⟩
abbrev cX5_choice : ByteArray := prog_7_method_27_code
def yX5_choice : MethodName := ⟨RX5, "choice", "(II)I"⟩
abbrev cX5_gap : ByteArray := prog_7_method_28_code
def yX5_gap : MethodName := ⟨RX5, "gap", "(II)I"⟩
abbrev cX5_filling : ByteArray := prog_7_method_29_code
def yX5_filling : MethodName := ⟨RX5, "filling", "(I)I"⟩
abbrev cX5_why : ByteArray := prog_7_method_30_code
def yX5_why : MethodName := ⟨RX5, "why", "(II)I"⟩
abbrev cX5_same : ByteArray := prog_7_method_31_code
def yX5_same : MethodName := ⟨RX5, "same", "(II)I"⟩
abbrev cX5_isPupil : ByteArray := prog_7_method_32_code
def yX5_isPupil : MethodName := ⟨RX5, "isPupil", "(I)Z"⟩
abbrev cX5_give : ByteArray := prog_7_method_33_code
def yX5_give : MethodName := ⟨RX5, "give", "(III)I"⟩
abbrev cX5_price : ByteArray := prog_7_method_34_code
def yX5_price : MethodName := ⟨RX5, "price", "(II)I"⟩
abbrev cX5_bits : ByteArray := prog_7_method_35_code
def yX5_bits : MethodName := ⟨RX5, "bits", "(I)I"⟩
abbrev cX5_costOf : ByteArray := prog_7_method_36_code
def yX5_costOf : MethodName := ⟨RX5, "costOf", "(II)I"⟩
abbrev cX5_cost : ByteArray := prog_7_method_37_code
def yX5_cost : MethodName := ⟨RX5, "cost", "(II)I"⟩
abbrev cX5_findSets : ByteArray := prog_7_method_38_code
def yX5_findSets : MethodName := ⟨RX5, "findSets", "(I)V"⟩
abbrev cX5_sets : ByteArray := prog_7_method_39_code
def yX5_sets : MethodName := ⟨RX5, "sets", "(I)I"⟩
abbrev cX5_set : ByteArray := prog_7_method_40_code
def yX5_set : MethodName := ⟨RX5, "set", "(II)I"⟩
abbrev cX5_greatest : ByteArray := prog_7_method_41_code
def yX5_greatest : MethodName := ⟨RX5, "greatest", "(I)I"⟩
abbrev cX5_next : ByteArray := prog_7_method_42_code
def yX5_next : MethodName := ⟨RX5, "next", "(I)I"⟩
abbrev cX5_tellApart : ByteArray := prog_7_method_43_code
def yX5_tellApart : MethodName := ⟨RX5, "tellApart", "(IIII)Z"⟩
abbrev cX5_parting : ByteArray := prog_7_method_44_code
def yX5_parting : MethodName := ⟨RX5, "parting", "()I"⟩
abbrev cX5_count : ByteArray := prog_7_method_45_code
def yX5_count : MethodName := ⟨RX5, "count", "(I)I"⟩
def RJ6 : String := "java/lang/Integer"
def TJ6 : u_T := fun k => match k with
  | _ => ("", "", "", false)
def tyJ6 : Nat → FieldType := fun k => match k with
  | _ => .int
abbrev wsJ60 : List Cond := u_ws RJ6 TJ6 0
theorem nmJ6 : ∀ a, a < 0 → ∀ b, b < 0 → a ≠ b → (TJ6 a).2.1 ≠ (TJ6 b).2.1 := by decide +kernel
theorem tyJ6_ok : ∀ k, k < 0 → parseFieldDescriptor (TJ6 k).2.2.1 = some (tyJ6 k) := by decide +kernel
abbrev cJ6_bitCount_0f7a4 : ByteArray := prog_8_method_49_code
def yJ6_bitCount_0f7a4 : MethodName := ⟨RJ6, "bitCount", "(I)I"⟩
def RJ13 : String := "java/lang/Long"
def TJ13 : u_T := fun k => match k with
  | _ => ("", "", "", false)
def tyJ13 : Nat → FieldType := fun k => match k with
  | _ => .int
abbrev wsJ130 : List Cond := u_ws RJ13 TJ13 0
theorem nmJ13 : ∀ a, a < 0 → ∀ b, b < 0 → a ≠ b → (TJ13 a).2.1 ≠ (TJ13 b).2.1 := by decide +kernel
theorem tyJ13_ok : ∀ k, k < 0 → parseFieldDescriptor (TJ13 k).2.2.1 = some (tyJ13 k) := by decide +kernel
abbrev cJ13_bitCount_95d88 : ByteArray := prog_9_method_50_code
def yJ13_bitCount_95d88 : MethodName := ⟨RJ13, "bitCount", "(J)I"⟩
def RJ9 : String := "java/lang/Math"
def TJ9 : u_T := fun k => match k with
  | _ => ("", "", "", false)
def tyJ9 : Nat → FieldType := fun k => match k with
  | _ => .int
abbrev wsJ90 : List Cond := u_ws RJ9 TJ9 0
theorem nmJ9 : ∀ a, a < 0 → ∀ b, b < 0 → a ≠ b → (TJ9 a).2.1 ≠ (TJ9 b).2.1 := by decide +kernel
theorem tyJ9_ok : ∀ k, k < 0 → parseFieldDescriptor (TJ9 k).2.2.1 = some (tyJ9 k) := by decide +kernel
abbrev cJ9_max_7cf53 : ByteArray := prog_10_method_65_code
def yJ9_max_7cf53 : MethodName := ⟨RJ9, "max", "(II)I"⟩
abbrev cJ9_min_7cf53 : ByteArray := prog_10_method_69_code
def yJ9_min_7cf53 : MethodName := ⟨RJ9, "min", "(II)I"⟩
def RJ7 : String := "java/util/Arrays"
def TJ7 : u_T := fun k => match k with
  | _ => ("", "", "", false)
def tyJ7 : Nat → FieldType := fun k => match k with
  | _ => .int
abbrev wsJ70 : List Cond := u_ws RJ7 TJ7 0
theorem nmJ7 : ∀ a, a < 0 → ∀ b, b < 0 → a ≠ b → (TJ7 a).2.1 ≠ (TJ7 b).2.1 := by decide +kernel
theorem tyJ7_ok : ∀ k, k < 0 → parseFieldDescriptor (TJ7 k).2.2.1 = some (tyJ7 k) := by decide +kernel
abbrev cJ7_fill_53178 : ByteArray := prog_11_method_103_code
def yJ7_fill_53178 : MethodName := ⟨RJ7, "fill", "([II)V"⟩
def RL : String := "CodeQuizLaw"
abbrev cL_law : ByteArray := code
def yL_law : MethodName := ⟨RL, "law", "([I)Z"⟩
def wsL_law_r1 : List Cond := [Cond.classLink RL 7 RX4, Cond.instantiable RX4 18, Cond.initialized RX4, Cond.classLink RL 10 RX5, Cond.instantiable RX5 33, Cond.initialized RX5, Cond.methodLink RL 9 yX4_init, Cond.instanceMethod yX4_init, Cond.code yX4_init cX4_init 2 none, Cond.methodLink RX4 3 objectInit, Cond.instanceMethod objectInit, Cond.code objectInit ⟨#[0xb1]⟩ 1 none, Cond.classLink RX4 9 RX1, Cond.fieldLink RX4 11 "CodeQuiz" "programs" "[LCodeQuiz$Program;", Cond.classLink RX4 15 RX3, Cond.fieldLink RX4 17 "CodeQuiz" "questions" "[LCodeQuiz$Question;", Cond.classLink RX4 21 RX2, Cond.fieldLink RX4 23 "CodeQuiz" "pupils" "[LCodeQuiz$Pupil;", Cond.arrayClass .int, Cond.fieldLink RX4 27 "CodeQuiz" "prices" "[I", Cond.classLink RX4 31 RX0, Cond.instantiable RX0 9, Cond.initialized RX0, Cond.fieldLink RX4 34 "CodeQuiz" "latest" "LCodeQuiz$Machine;"]
def wsL_law_r2 : List Cond := [Cond.fieldLink RX4 38 "CodeQuiz" "first" "LCodeQuiz$Machine;", Cond.fieldLink RX4 41 "CodeQuiz" "second" "LCodeQuiz$Machine;", Cond.fieldLink RX4 44 "CodeQuiz" "choiceValues" "[I", Cond.fieldLink RX4 47 "CodeQuiz" "choiceSlips" "[I", Cond.fieldLink RX4 50 "CodeQuiz" "setAnswers" "[I", Cond.fieldLink RX4 53 "CodeQuiz" "partedPairs" "[I", Cond.instantiable RX2 2, Cond.initialized RX2, Cond.instanceMethod yX0_init, Cond.code yX0_init cX0_init 1 none, Cond.methodLink RX0 3 objectInit, Cond.fieldLink RX0 9 "CodeQuiz$Machine" "variables" "[I", Cond.fieldLink RX0 15 "CodeQuiz$Machine" "cells" "[I", Cond.fieldLink RX0 18 "CodeQuiz$Machine" "rowStarts" "[I", Cond.fieldLink RX0 21 "CodeQuiz$Machine" "timesDone" "[I", Cond.arrayClass .long, Cond.fieldLink RX0 24 "CodeQuiz$Machine" "roundsLeft" "[J", Cond.instanceMethod yX2_init, Cond.code yX2_init cX2_init 1 none, Cond.methodLink RX2 3 objectInit, Cond.fieldLink RX2 9 "CodeQuiz$Pupil" "values" "[I", Cond.methodLink RX4 57 yJ7_fill_53178, Cond.static yJ7_fill_53178, Cond.initialized RJ7]
def wsL_law_r3 : List Cond := [Cond.code yJ7_fill_53178 cJ7_fill_53178 4 none, Cond.methodLink RL 12 yX5_init, Cond.instanceMethod yX5_init, Cond.code yX5_init cX5_init 2 none, Cond.methodLink RX5 1 objectInit, Cond.fieldLink RX5 9 "CodeQuizModel" "op" "[I", Cond.fieldLink RX5 13 "CodeQuizModel" "x" "[I", Cond.fieldLink RX5 16 "CodeQuizModel" "y" "[I", Cond.fieldLink RX5 19 "CodeQuizModel" "many" "[I", Cond.fieldLink RX5 22 "CodeQuizModel" "variable" "[I", Cond.fieldLink RX5 25 "CodeQuizModel" "cells" "[I", Cond.fieldLink RX5 28 "CodeQuizModel" "rowOf" "[I", Cond.fieldLink RX5 31 "CodeQuizModel" "left" "[J", Cond.fieldLink RX5 35 "CodeQuizModel" "times" "[I", Cond.fieldLink RX5 38 "CodeQuizModel" "told" "[I", Cond.fieldLink RX5 41 "CodeQuizModel" "toldTimes" "[I", Cond.fieldLink RX5 44 "CodeQuizModel" "toldLines" "I", Cond.fieldLink RX5 48 "CodeQuizModel" "ofProgram" "[I", Cond.fieldLink RX5 51 "CodeQuizModel" "input" "[I", Cond.fieldLink RX5 54 "CodeQuizModel" "kind" "[I", Cond.fieldLink RX5 57 "CodeQuizModel" "about" "[I", Cond.fieldLink RX5 60 "CodeQuizModel" "choiceValue" "[I", Cond.fieldLink RX5 63 "CodeQuizModel" "choiceSlip" "[I", Cond.fieldLink RX5 66 "CodeQuizModel" "filling" "[I"]
def wsL_law_r4 : List Cond := [Cond.fieldLink RX5 69 "CodeQuizModel" "kept" "[I", Cond.arrayClass .boolean, Cond.fieldLink RX5 72 "CodeQuizModel" "hasGiven" "[Z", Cond.fieldLink RX5 76 "CodeQuizModel" "given" "[I", Cond.fieldLink RX5 79 "CodeQuizModel" "price" "[I", Cond.fieldLink RX5 82 "CodeQuizModel" "sets" "[I", Cond.fieldLink RX5 85 "CodeQuizModel" "answers" "[I", Cond.fieldLink RX5 88 "CodeQuizModel" "table" "[I", Cond.methodLink RL 13 yX4_program, Cond.instanceMethod yX4_program, Cond.selects RX4 yX4_program yX4_program, Cond.code yX4_program cX4_program 1 (some .int), Cond.fieldLink RX4 63 "CodeQuiz" "programCount" "I", Cond.instantiable RX1 9, Cond.initialized RX1, Cond.instanceMethod yX1_init, Cond.code yX1_init cX1_init 1 none, Cond.methodLink RX1 3 objectInit, Cond.fieldLink RX1 9 "CodeQuiz$Program" "ops" "[I", Cond.fieldLink RX1 15 "CodeQuiz$Program" "xs" "[I", Cond.fieldLink RX1 18 "CodeQuiz$Program" "ys" "[I", Cond.fieldLink RX1 21 "CodeQuiz$Program" "depths" "[I", Cond.fieldLink RX1 24 "CodeQuiz$Program" "mates" "[I", Cond.fieldLink RX1 27 "CodeQuiz$Program" "openLines" "[I"]
def wsL_law_r5 : List Cond := [Cond.methodLink RL 17 yX5_program, Cond.instanceMethod yX5_program, Cond.selects RX5 yX5_program yX5_program, Cond.code yX5_program cX5_program 1 (some .int), Cond.fieldLink RX5 91 "CodeQuizModel" "programs" "I", Cond.methodLink RL 18 yX4_line, Cond.instanceMethod yX4_line, Cond.selects RX4 yX4_line yX4_line, Cond.code yX4_line cX4_line 6 (some .int), Cond.fieldLink RX4 87 "CodeQuiz" "lineCount" "I", Cond.methodLink RX4 68 yX4_programAt, Cond.instanceMethod yX4_programAt, Cond.selects RX4 yX4_programAt yX4_programAt, Cond.code yX4_programAt cX4_programAt 2 (some (.object "CodeQuiz$Program")), Cond.methodLink RX4 72 yX4_fitsOp, Cond.static yX4_fitsOp, Cond.code yX4_fitsOp cX4_fitsOp 3 (some .boolean), Cond.methodLink RX4 246 yX4_isVariable, Cond.static yX4_isVariable, Cond.code yX4_isVariable cX4_isVariable 1 (some .boolean), Cond.methodLink RX4 249 yX4_isCell, Cond.static yX4_isCell, Cond.code yX4_isCell cX4_isCell 1 (some .boolean), Cond.methodLink RX4 252 yX4_isName]
def wsL_law_r6 : List Cond := [Cond.static yX4_isName, Cond.code yX4_isName cX4_isName 1 (some .boolean), Cond.instanceMethod yX1_isWhole, Cond.selects RX1 yX1_isWhole yX1_isWhole, Cond.code yX1_isWhole cX1_isWhole 1 (some .boolean), Cond.fieldLink RX1 34 "CodeQuiz$Program" "openCount" "I", Cond.instanceMethod yX1_append, Cond.selects RX1 yX1_append yX1_append, Cond.code yX1_append cX1_append 4 (some .int), Cond.fieldLink RX1 30 "CodeQuiz$Program" "size" "I", Cond.methodLink RL 22 yX5_line, Cond.instanceMethod yX5_line, Cond.selects RX5 yX5_line yX5_line, Cond.code yX5_line cX5_line 6 (some .int), Cond.fieldLink RX5 94 "CodeQuizModel" "questions" "I", Cond.methodLink RX5 101 yX5_isProgram, Cond.instanceMethod yX5_isProgram, Cond.selects RX5 yX5_isProgram yX5_isProgram, Cond.code yX5_isProgram cX5_isProgram 2 (some .boolean), Cond.methodLink RX5 105 yX5_mayBe, Cond.static yX5_mayBe, Cond.code yX5_mayBe cX5_mayBe 4 (some .boolean), Cond.methodLink RX5 97 yX5_within, Cond.static yX5_within]
def wsL_law_r7 : List Cond := [Cond.code yX5_within cX5_within 3 (some .boolean), Cond.methodLink RX5 108 yX5_openAhead, Cond.instanceMethod yX5_openAhead, Cond.selects RX5 yX5_openAhead yX5_openAhead, Cond.code yX5_openAhead cX5_openAhead 6 (some .int), Cond.methodLink RL 23 yX4_about, Cond.instanceMethod yX4_about, Cond.selects RX4 yX4_about yX4_about, Cond.code yX4_about cX4_about 5 (some .int), Cond.constant RX4 98 (-2000000000), Cond.instanceMethod yX1_hasLine, Cond.selects RX1 yX1_hasLine yX1_hasLine, Cond.code yX1_hasLine cX1_hasLine 2 (some .boolean), Cond.methodLink RL 27 yX5_about, Cond.instanceMethod yX5_about, Cond.selects RX5 yX5_about yX5_about, Cond.code yX5_about cX5_about 5 (some .int), Cond.constant RX5 112 (-2000000000), Cond.methodLink RL 28 yX4_whole, Cond.instanceMethod yX4_whole, Cond.selects RX4 yX4_whole yX4_whole, Cond.code yX4_whole cX4_whole 3 (some .int), Cond.methodLink RL 32 yX5_whole, Cond.instanceMethod yX5_whole]
def wsL_law_r8 : List Cond := [Cond.selects RX5 yX5_whole yX5_whole, Cond.code yX5_whole cX5_whole 2 (some .int), Cond.methodLink RX5 113 yX5_isWhole, Cond.instanceMethod yX5_isWhole, Cond.selects RX5 yX5_isWhole yX5_isWhole, Cond.code yX5_isWhole cX5_isWhole 2 (some .boolean), Cond.methodLink RL 33 yX4_run, Cond.instanceMethod yX4_run, Cond.selects RX4 yX4_run yX4_run, Cond.code yX4_run cX4_run 5 (some .int), Cond.fieldLink RX4 121 "CodeQuiz" "hasRun" "Z", Cond.methodLink RX4 111 yX4_isInput, Cond.static yX4_isInput, Cond.code yX4_isInput cX4_isInput 1 (some .boolean), Cond.methodLink RX4 114 yX4_isMachine, Cond.static yX4_isMachine, Cond.code yX4_isMachine cX4_isMachine 1 (some .boolean), Cond.instanceMethod yX0_perform, Cond.selects RX0 yX0_perform yX0_perform, Cond.code yX0_perform cX0_perform 5 none, Cond.fieldLink RX0 32 "CodeQuiz$Machine" "slips" "I", Cond.fieldLink RX0 41 "CodeQuiz$Machine" "linesKnown" "I", Cond.fieldLink RX0 44 "CodeQuiz$Machine" "steps" "I", Cond.fieldLink RX0 51 "CodeQuiz$Machine" "spent" "Z"]
def wsL_law_r9 : List Cond := [Cond.methodLink RX0 28 yX0_begin, Cond.instanceMethod yX0_begin, Cond.selects RX0 yX0_begin yX0_begin, Cond.code yX0_begin cX0_begin 2 none, Cond.methodLink RX0 55 yJ7_fill_53178, Cond.methodLink RX0 47 yX0_doLine, Cond.instanceMethod yX0_doLine, Cond.selects RX0 yX0_doLine yX0_doLine, Cond.code yX0_doLine cX0_doLine 5 (some .int), Cond.methodLink RX0 70 yX0_has, Cond.instanceMethod yX0_has, Cond.selects RX0 yX0_has yX0_has, Cond.code yX0_has cX0_has 2 (some .boolean), Cond.methodLink RX0 74 yX0_enterLoop, Cond.instanceMethod yX0_enterLoop, Cond.selects RX0 yX0_enterLoop yX0_enterLoop, Cond.code yX0_enterLoop cX0_enterLoop 4 (some .boolean), Cond.methodLink RX0 81 yX0_isLess, Cond.instanceMethod yX0_isLess, Cond.selects RX0 yX0_isLess yX0_isLess, Cond.code yX0_isLess cX0_isLess 4 (some .boolean), Cond.methodLink RX0 84 yX0_goesRound, Cond.instanceMethod yX0_goesRound, Cond.selects RX0 yX0_goesRound yX0_goesRound]
def wsL_law_r10 : List Cond := [Cond.code yX0_goesRound cX0_goesRound 4 (some .boolean), Cond.methodLink RX0 88 yX0_placeOf, Cond.instanceMethod yX0_placeOf, Cond.selects RX0 yX0_placeOf yX0_placeOf, Cond.code yX0_placeOf cX0_placeOf 3 (some .int), Cond.methodLink RX0 92 yX0_doShare, Cond.instanceMethod yX0_doShare, Cond.selects RX0 yX0_doShare yX0_doShare, Cond.code yX0_doShare cX0_doShare 5 none, Cond.methodLink RL 36 yX5_run, Cond.instanceMethod yX5_run, Cond.selects RX5 yX5_run yX5_run, Cond.code yX5_run cX5_run 5 (some .int), Cond.fieldLink RX5 116 "CodeQuizModel" "steps" "I", Cond.methodLink RX5 144 yX5_runLines, Cond.instanceMethod yX5_runLines, Cond.selects RX5 yX5_runLines yX5_runLines, Cond.code yX5_runLines cX5_runLines 7 none, Cond.fieldLink RX5 119 "CodeQuizModel" "isSpent" "Z", Cond.methodLink RX5 123 yX5_doLine, Cond.instanceMethod yX5_doLine, Cond.selects RX5 yX5_doLine yX5_doLine, Cond.code yX5_doLine cX5_doLine 8 (some .int), Cond.methodLink RX5 127 yX5_has]
def wsL_law_r11 : List Cond := [Cond.static yX5_has, Cond.code yX5_has cX5_has 2 (some .boolean), Cond.methodLink RX5 131 yX5_endOf, Cond.instanceMethod yX5_endOf, Cond.selects RX5 yX5_endOf yX5_endOf, Cond.code yX5_endOf cX5_endOf 6 (some .int), Cond.methodLink RX5 134 yX5_ended, Cond.instanceMethod yX5_ended, Cond.selects RX5 yX5_ended yX5_ended, Cond.code yX5_ended cX5_ended 4 (some .int), Cond.methodLink RX5 141 yX5_beginOf, Cond.instanceMethod yX5_beginOf, Cond.selects RX5 yX5_beginOf yX5_beginOf, Cond.code yX5_beginOf cX5_beginOf 6 (some .int), Cond.methodLink RX5 137 yX5_rows, Cond.instanceMethod yX5_rows, Cond.selects RX5 yX5_rows yX5_rows, Cond.code yX5_rows cX5_rows 8 none, Cond.methodLink RX5 148 yX5_end, Cond.instanceMethod yX5_end, Cond.selects RX5 yX5_end yX5_end, Cond.code yX5_end cX5_end 2 (some .int), Cond.methodLink RL 37 yX4_told, Cond.instanceMethod yX4_told]
def wsL_law_r12 : List Cond := [Cond.selects RX4 yX4_told yX4_told, Cond.code yX4_told cX4_told 2 (some .int), Cond.instanceMethod yX0_cellOf, Cond.selects RX0 yX0_cellOf yX0_cellOf, Cond.code yX0_cellOf cX0_cellOf 2 (some .int), Cond.instanceMethod yX0_namesShare, Cond.selects RX0 yX0_namesShare yX0_namesShare, Cond.code yX0_namesShare cX0_namesShare 1 (some .boolean), Cond.methodLink RL 40 yX5_told, Cond.instanceMethod yX5_told, Cond.selects RX5 yX5_told yX5_told, Cond.code yX5_told cX5_told 2 (some .int), Cond.methodLink RL 41 yX4_done, Cond.instanceMethod yX4_done, Cond.selects RX4 yX4_done yX4_done, Cond.code yX4_done cX4_done 2 (some .int), Cond.methodLink RL 44 yX5_done, Cond.instanceMethod yX5_done, Cond.selects RX5 yX5_done yX5_done, Cond.code yX5_done cX5_done 2 (some .int), Cond.methodLink RL 45 yX4_question, Cond.instanceMethod yX4_question, Cond.selects RX4 yX4_question yX4_question, Cond.code yX4_question cX4_question 6 (some .int)]
def wsL_law_r13 : List Cond := [Cond.fieldLink RX4 150 "CodeQuiz" "questionCount" "I", Cond.instantiable RX3 6, Cond.initialized RX3, Cond.methodLink RX4 146 yX4_isAskable, Cond.static yX4_isAskable, Cond.code yX4_isAskable cX4_isAskable 3 (some .boolean), Cond.instanceMethod yX3_init, Cond.code yX3_init cX3_init 5 none, Cond.methodLink RX3 3 objectInit, Cond.fieldLink RX3 9 "CodeQuiz$Question" "answers" "[I", Cond.fieldLink RX3 15 "CodeQuiz$Question" "program" "LCodeQuiz$Program;", Cond.fieldLink RX3 19 "CodeQuiz$Question" "input" "I", Cond.fieldLink RX3 23 "CodeQuiz$Question" "kind" "I", Cond.fieldLink RX3 26 "CodeQuiz$Question" "what" "I", Cond.methodLink RL 48 yX5_question, Cond.instanceMethod yX5_question, Cond.selects RX5 yX5_question yX5_question, Cond.code yX5_question cX5_question 5 (some .int), Cond.methodLink RL 49 yX4_answer, Cond.instanceMethod yX4_answer, Cond.selects RX4 yX4_answer yX4_answer, Cond.code yX4_answer cX4_answer 4 (some .int), Cond.methodLink RX4 156 yX4_questionAt, Cond.instanceMethod yX4_questionAt]
def wsL_law_r14 : List Cond := [Cond.selects RX4 yX4_questionAt yX4_questionAt, Cond.code yX4_questionAt cX4_questionAt 2 (some (.object "CodeQuiz$Question")), Cond.methodLink RX4 160 yX4_answerBy, Cond.instanceMethod yX4_answerBy, Cond.selects RX4 yX4_answerBy yX4_answerBy, Cond.code yX4_answerBy cX4_answerBy 3 (some .int), Cond.instanceMethod yX3_knows, Cond.selects RX3 yX3_knows yX3_knows, Cond.code yX3_knows cX3_knows 2 (some .boolean), Cond.fieldLink RX3 29 "CodeQuiz$Question" "known" "J", Cond.static yX4_hasBit, Cond.code yX4_hasBit cX4_hasBit 3 (some .boolean), Cond.instanceMethod yX0_answerTo, Cond.selects RX0 yX0_answerTo yX0_answerTo, Cond.code yX0_answerTo cX0_answerTo 3 (some .int), Cond.methodLink RX0 96 yX0_cellOf, Cond.instanceMethod yX3_keep, Cond.selects RX3 yX3_keep yX3_keep, Cond.code yX3_keep cX3_keep 3 none, Cond.methodLink RL 53 yX5_answer, Cond.instanceMethod yX5_answer, Cond.selects RX5 yX5_answer yX5_answer, Cond.code yX5_answer cX5_answer 3 (some .int), Cond.methodLink RX5 152 yX5_isQuestion]
def wsL_law_r15 : List Cond := [Cond.instanceMethod yX5_isQuestion, Cond.selects RX5 yX5_isQuestion yX5_isQuestion, Cond.code yX5_isQuestion cX5_isQuestion 2 (some .boolean), Cond.methodLink RX5 155 yX5_answerOf, Cond.instanceMethod yX5_answerOf, Cond.selects RX5 yX5_answerOf yX5_answerOf, Cond.code yX5_answerOf cX5_answerOf 3 (some .int), Cond.methodLink RL 54 yX4_choices, Cond.instanceMethod yX4_choices, Cond.selects RX4 yX4_choices yX4_choices, Cond.code yX4_choices cX4_choices 4 (some .int), Cond.fieldLink RX4 168 "CodeQuiz" "latestChoicesQuestion" "I", Cond.fieldLink RX4 171 "CodeQuiz" "latestChoicesCount" "I", Cond.methodLink RX4 164 yX4_listChoices, Cond.instanceMethod yX4_listChoices, Cond.selects RX4 yX4_listChoices yX4_listChoices, Cond.code yX4_listChoices cX4_listChoices 5 (some .int), Cond.methodLink RX4 271 yX4_singleMachine, Cond.static yX4_singleMachine, Cond.code yX4_singleMachine cX4_singleMachine 1 (some .int), Cond.methodLink RX4 274 yX4_isListed, Cond.instanceMethod yX4_isListed, Cond.selects RX4 yX4_isListed yX4_isListed, Cond.code yX4_isListed cX4_isListed 4 (some .boolean)]
def wsL_law_r16 : List Cond := [Cond.methodLink RL 57 yX5_choices, Cond.instanceMethod yX5_choices, Cond.selects RX5 yX5_choices yX5_choices, Cond.code yX5_choices cX5_choices 8 (some .int), Cond.fieldLink RX5 158 "CodeQuizModel" "choiceMany" "I", Cond.methodLink RL 58 yX4_choice, Cond.instanceMethod yX4_choice, Cond.selects RX4 yX4_choice yX4_choice, Cond.code yX4_choice cX4_choice 4 (some .int), Cond.methodLink RL 61 yX5_choice, Cond.instanceMethod yX5_choice, Cond.selects RX5 yX5_choice yX5_choice, Cond.code yX5_choice cX5_choice 3 (some .int), Cond.methodLink RL 62 yX4_gap, Cond.instanceMethod yX4_gap, Cond.selects RX4 yX4_gap yX4_gap, Cond.code yX4_gap cX4_gap 4 (some .int), Cond.fieldLink RX4 178 "CodeQuiz" "latestFillings" "J", Cond.methodLink RX4 174 yX4_findFillings, Cond.instanceMethod yX4_findFillings, Cond.selects RX4 yX4_findFillings yX4_findFillings, Cond.code yX4_findFillings cX4_findFillings 6 (some .long), Cond.constantLong RX4 278 (524287), Cond.methodLink RX4 280 yX4_fillingsThatEndAlike]
def wsL_law_r17 : List Cond := [Cond.instanceMethod yX4_fillingsThatEndAlike, Cond.selects RX4 yX4_fillingsThatEndAlike yX4_fillingsThatEndAlike, Cond.code yX4_fillingsThatEndAlike cX4_fillingsThatEndAlike 10 (some .long), Cond.constantLong RX4 291 (-1), Cond.methodLink RX4 284 yX4_hasBit, Cond.instanceMethod yX0_endsLike, Cond.selects RX0 yX0_endsLike yX0_endsLike, Cond.code yX0_endsLike cX0_endsLike 3 (some .boolean), Cond.methodLink RX0 100 yX0_endsWithVariablesOf, Cond.instanceMethod yX0_endsWithVariablesOf, Cond.selects RX0 yX0_endsWithVariablesOf yX0_endsWithVariablesOf, Cond.code yX0_endsWithVariablesOf cX0_endsWithVariablesOf 3 (some .boolean), Cond.methodLink RX4 182 yJ13_bitCount_95d88, Cond.static yJ13_bitCount_95d88, Cond.initialized RJ13, Cond.code yJ13_bitCount_95d88 cJ13_bitCount_95d88 2 (some .int), Cond.constantLong RJ13 314 (6148914691236517205), Cond.constantLong RJ13 316 (3689348814741910323), Cond.constantLong RJ13 318 (1085102592571150095), Cond.methodLink RL 65 yX5_gap, Cond.instanceMethod yX5_gap, Cond.selects RX5 yX5_gap yX5_gap, Cond.code yX5_gap cX5_gap 8 (some .int), Cond.fieldLink RX5 161 "CodeQuizModel" "fillingMany" "I"]
def wsL_law_r18 : List Cond := [Cond.methodLink RL 66 yX4_filling, Cond.instanceMethod yX4_filling, Cond.selects RX4 yX4_filling yX4_filling, Cond.code yX4_filling cX4_filling 3 (some .int), Cond.methodLink RX4 188 yX4_bitAt, Cond.static yX4_bitAt, Cond.code yX4_bitAt cX4_bitAt 5 (some .int), Cond.methodLink RL 69 yX5_filling, Cond.instanceMethod yX5_filling, Cond.selects RX5 yX5_filling yX5_filling, Cond.code yX5_filling cX5_filling 2 (some .int), Cond.methodLink RL 70 yX4_why, Cond.instanceMethod yX4_why, Cond.selects RX4 yX4_why yX4_why, Cond.code yX4_why cX4_why 6 (some .int), Cond.methodLink RL 73 yX5_why, Cond.instanceMethod yX5_why, Cond.selects RX5 yX5_why yX5_why, Cond.code yX5_why cX5_why 5 (some .int), Cond.methodLink RL 74 yX4_same, Cond.instanceMethod yX4_same, Cond.selects RX4 yX4_same yX4_same, Cond.code yX4_same cX4_same 6 (some .int), Cond.methodLink RL 77 yX5_same]
def wsL_law_r19 : List Cond := [Cond.instanceMethod yX5_same, Cond.selects RX5 yX5_same yX5_same, Cond.code yX5_same cX5_same 6 (some .int), Cond.methodLink RL 78 yX4_give, Cond.instanceMethod yX4_give, Cond.selects RX4 yX4_give yX4_give, Cond.code yX4_give cX4_give 4 (some .int), Cond.methodLink RX4 206 yX4_isPupil, Cond.static yX4_isPupil, Cond.code yX4_isPupil cX4_isPupil 1 (some .boolean), Cond.instanceMethod yX2_note, Cond.selects RX2 yX2_note yX2_note, Cond.code yX2_note cX2_note 3 (some .int), Cond.fieldLink RX2 15 "CodeQuiz$Pupil" "answered" "J", Cond.methodLink RX2 23 yJ13_bitCount_95d88, Cond.methodLink RL 81 yX5_give, Cond.instanceMethod yX5_give, Cond.selects RX5 yX5_give yX5_give, Cond.code yX5_give cX5_give 6 (some .int), Cond.methodLink RX5 164 yX5_isPupil, Cond.static yX5_isPupil, Cond.code yX5_isPupil cX5_isPupil 1 (some .boolean), Cond.methodLink RL 82 yX4_price, Cond.instanceMethod yX4_price]
def wsL_law_r20 : List Cond := [Cond.selects RX4 yX4_price yX4_price, Cond.code yX4_price cX4_price 4 (some .int), Cond.methodLink RL 85 yX5_price, Cond.instanceMethod yX5_price, Cond.selects RX5 yX5_price yX5_price, Cond.code yX5_price cX5_price 4 (some .int), Cond.methodLink RL 86 yX4_cost, Cond.instanceMethod yX4_cost, Cond.selects RX4 yX4_cost yX4_cost, Cond.code yX4_cost cX4_cost 3 (some .int), Cond.methodLink RX4 213 yJ6_bitCount_0f7a4, Cond.static yJ6_bitCount_0f7a4, Cond.initialized RJ6, Cond.code yJ6_bitCount_0f7a4 cJ6_bitCount_0f7a4 1 (some .int), Cond.constant RJ6 265 (1431655765), Cond.constant RJ6 266 (858993459), Cond.constant RJ6 267 (252645135), Cond.methodLink RX4 217 yX4_costOf, Cond.instanceMethod yX4_costOf, Cond.selects RX4 yX4_costOf yX4_costOf, Cond.code yX4_costOf cX4_costOf 5 (some .int), Cond.instanceMethod yX2_hasAnswered, Cond.selects RX2 yX2_hasAnswered yX2_hasAnswered, Cond.code yX2_hasAnswered cX2_hasAnswered 2 (some .boolean)]
def wsL_law_r21 : List Cond := [Cond.methodLink RL 89 yX5_cost, Cond.instanceMethod yX5_cost, Cond.selects RX5 yX5_cost yX5_cost, Cond.code yX5_cost cX5_cost 3 (some .int), Cond.methodLink RX5 167 yX5_bits, Cond.static yX5_bits, Cond.code yX5_bits cX5_bits 3 (some .int), Cond.methodLink RX5 170 yX5_costOf, Cond.instanceMethod yX5_costOf, Cond.selects RX5 yX5_costOf yX5_costOf, Cond.code yX5_costOf cX5_costOf 6 (some .int), Cond.methodLink RL 90 yX4_sets, Cond.instanceMethod yX4_sets, Cond.selects RX4 yX4_sets yX4_sets, Cond.code yX4_sets cX4_sets 2 (some .int), Cond.methodLink RX4 221 yX4_findSets, Cond.instanceMethod yX4_findSets, Cond.selects RX4 yX4_findSets yX4_findSets, Cond.code yX4_findSets cX4_findSets 7 (some .long), Cond.constant RX4 296 (1000000), Cond.methodLink RL 93 yX5_sets, Cond.instanceMethod yX5_sets, Cond.selects RX5 yX5_sets yX5_sets, Cond.code yX5_sets cX5_sets 2 (some .int)]
def wsL_law_r22 : List Cond := [Cond.fieldLink RX5 173 "CodeQuizModel" "setMany" "I", Cond.methodLink RX5 176 yX5_findSets, Cond.instanceMethod yX5_findSets, Cond.selects RX5 yX5_findSets yX5_findSets, Cond.code yX5_findSets cX5_findSets 5 none, Cond.methodLink RL 94 yX4_set, Cond.instanceMethod yX4_set, Cond.selects RX4 yX4_set yX4_set, Cond.code yX4_set cX4_set 4 (some .int), Cond.methodLink RL 97 yX5_set, Cond.instanceMethod yX5_set, Cond.selects RX5 yX5_set yX5_set, Cond.code yX5_set cX5_set 3 (some .int), Cond.methodLink RL 98 yX4_next, Cond.instanceMethod yX4_next, Cond.selects RX4 yX4_next yX4_next, Cond.code yX4_next cX4_next 8 (some .int), Cond.methodLink RX4 228 yX4_listSetAnswers, Cond.instanceMethod yX4_listSetAnswers, Cond.selects RX4 yX4_listSetAnswers yX4_listSetAnswers, Cond.code yX4_listSetAnswers cX4_listSetAnswers 6 (some .int), Cond.methodLink RX4 232 yX4_mostAlike, Cond.instanceMethod yX4_mostAlike, Cond.selects RX4 yX4_mostAlike yX4_mostAlike]
def wsL_law_r23 : List Cond := [Cond.code yX4_mostAlike cX4_mostAlike 6 (some .int), Cond.methodLink RX4 297 Lib.Math.max.name, Cond.static Lib.Math.max.name, Cond.initialized "java/lang/Math", Cond.code Lib.Math.max.name Lib.Math.max.code 2 (some .int), Cond.methodLink RL 101 yX5_next, Cond.instanceMethod yX5_next, Cond.selects RX5 yX5_next yX5_next, Cond.code yX5_next cX5_next 6 (some .int), Cond.methodLink RX5 180 yX5_greatest, Cond.instanceMethod yX5_greatest, Cond.selects RX5 yX5_greatest yX5_greatest, Cond.code yX5_greatest cX5_greatest 6 (some .int), Cond.methodLink RL 102 yX4_parting, Cond.instanceMethod yX4_parting, Cond.selects RX4 yX4_parting yX4_parting, Cond.code yX4_parting cX4_parting 5 (some .int), Cond.methodLink RX4 235 Lib.Math.min.name, Cond.static Lib.Math.min.name, Cond.code Lib.Math.min.name Lib.Math.min.code 2 (some .int), Cond.methodLink RX4 240 yX4_pairsParted, Cond.instanceMethod yX4_pairsParted, Cond.selects RX4 yX4_pairsParted yX4_pairsParted, Cond.code yX4_pairsParted cX4_pairsParted 6 (some .int)]
def wsL_law_r24 : List Cond := [Cond.methodLink RX4 243 yX4_partsAll, Cond.instanceMethod yX4_partsAll, Cond.selects RX4 yX4_partsAll yX4_partsAll, Cond.code yX4_partsAll cX4_partsAll 4 (some .boolean), Cond.constant RX4 300 (2097151), Cond.methodLink RL 105 yX5_parting, Cond.instanceMethod yX5_parting, Cond.selects RX5 yX5_parting yX5_parting, Cond.code yX5_parting cX5_parting 8 (some .int), Cond.methodLink RX5 183 yX5_tellApart, Cond.instanceMethod yX5_tellApart, Cond.selects RX5 yX5_tellApart yX5_tellApart, Cond.code yX5_tellApart cX5_tellApart 7 (some .boolean), Cond.methodLink RL 106 yX4_count, Cond.instanceMethod yX4_count, Cond.selects RX4 yX4_count yX4_count, Cond.code yX4_count cX4_count 2 (some .int), Cond.methodLink RL 109 yX5_count, Cond.instanceMethod yX5_count, Cond.selects RX5 yX5_count yX5_count, Cond.code yX5_count cX5_count 4 (some .int)]
def wsL_law : List Cond := (wsL_law_r1 ++ (wsL_law_r2 ++ (wsL_law_r3 ++ (wsL_law_r4 ++ (wsL_law_r5 ++ (wsL_law_r6 ++ (wsL_law_r7 ++ (wsL_law_r8 ++ (wsL_law_r9 ++ (wsL_law_r10 ++ (wsL_law_r11 ++ (wsL_law_r12 ++ (wsL_law_r13 ++ (wsL_law_r14 ++ (wsL_law_r15 ++ (wsL_law_r16 ++ (wsL_law_r17 ++ (wsL_law_r18 ++ (wsL_law_r19 ++ (wsL_law_r20 ++ (wsL_law_r21 ++ (wsL_law_r22 ++ (wsL_law_r23 ++ wsL_law_r24))))))))))))))))))))))) ++ wsX40 ++ wsX50 ++ wsX00 ++ wsX20 ++ wsX10 ++ wsX30 ++ ([] : List Cond)
set_option maxRecDepth 20000 in
theorem wsL_law_in : ∀ w ∈ wsL_law, w ∈ lw_tbl := fun w h => (goodIn_p wsL_law [65, 68, 79, 119, 131, 553, 190, 194, 659, 237, 241, 244, 247, 250, 253, 257, 261, 663, 667, 670, 673, 677, 265, 269, 681, 274, 686, 690, 278, 281, 284, 288, 292, 297, 301, 305, 309, 313, 317, 321, 694, 698, 702, 705, 709, 713, 717, 721, 725, 325, 329, 333, 729, 337, 733, 341, 344, 348, 737, 377, 381, 385, 389, 392, 396, 401, 741, 745, 749, 405, 409, 412, 416, 753, 420, 757, 424, 428, 433, 438, 442, 446, 761, 453, 456, 765, 460, 769, 464, 773, 469, 472, 476, 777, 780, 481, 784, 485, 488, 495, 499, 788, 791, 795, 504, 508, 799, 803, 513, 807, 517, 521, 525, 528, 811, 815, 532, 535, 539, 543, 819, 823, 548, 827] (by decide +kernel) (by decide +kernel) w h).1
theorem inlX0 : ∀ w ∈ wsX00, w ∈ wsL_law := fun _ h => List.mem_append_left _ (List.mem_append_left _ (List.mem_append_left _ (List.mem_append_left _ (List.mem_append_right _ h))))
theorem inX0 : ∀ w ∈ wsX00, w ∈ lw_tbl := fun w h => wsL_law_in w (inlX0 w h)
theorem inlX1 : ∀ w ∈ wsX10, w ∈ wsL_law := fun _ h => List.mem_append_left _ (List.mem_append_left _ (List.mem_append_right _ h))
theorem inX1 : ∀ w ∈ wsX10, w ∈ lw_tbl := fun w h => wsL_law_in w (inlX1 w h)
theorem inlX2 : ∀ w ∈ wsX20, w ∈ wsL_law := fun _ h => List.mem_append_left _ (List.mem_append_left _ (List.mem_append_left _ (List.mem_append_right _ h)))
theorem inX2 : ∀ w ∈ wsX20, w ∈ lw_tbl := fun w h => wsL_law_in w (inlX2 w h)
theorem inlX3 : ∀ w ∈ wsX30, w ∈ wsL_law := fun _ h => List.mem_append_left _ (List.mem_append_right _ h)
theorem inX3 : ∀ w ∈ wsX30, w ∈ lw_tbl := fun w h => wsL_law_in w (inlX3 w h)
theorem inlX4 : ∀ w ∈ wsX40, w ∈ wsL_law := fun _ h => List.mem_append_left _ (List.mem_append_left _ (List.mem_append_left _ (List.mem_append_left _ (List.mem_append_left _ (List.mem_append_left _ (List.mem_append_right _ h))))))
theorem inX4 : ∀ w ∈ wsX40, w ∈ lw_tbl := fun w h => wsL_law_in w (inlX4 w h)
theorem inlX5 : ∀ w ∈ wsX50, w ∈ wsL_law := fun _ h => List.mem_append_left _ (List.mem_append_left _ (List.mem_append_left _ (List.mem_append_left _ (List.mem_append_left _ (List.mem_append_right _ h)))))
theorem inX5 : ∀ w ∈ wsX50, w ∈ lw_tbl := fun w h => wsL_law_in w (inlX5 w h)
theorem inJ6 : ∀ w ∈ wsJ60, w ∈ lw_tbl := by decide +kernel
theorem inJ13 : ∀ w ∈ wsJ130, w ∈ lw_tbl := by decide +kernel
theorem inJ9 : ∀ w ∈ wsJ90, w ∈ lw_tbl := by decide +kernel
theorem inJ7 : ∀ w ∈ wsJ70, w ∈ lw_tbl := by decide +kernel
abbrev vwCl : List vw_C := [(RX0, TX0, 9), (RX1, TX1, 9), (RX2, TX2, 2), (RX3, TX3, 6), (RX4, TX4, 18), (RX5, TX5, 33)]
/-- the objects of CodeQuiz$Machine, kind 0: what each holds, by its address -/
