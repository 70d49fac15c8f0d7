section
-- ===== PART A: goes FIRST, ahead of the names: the tables' words, and 'selects' of the private methods out of them =====
/-- a private method of a class that the tables say can be made, by its rows of tables_1 -/
def lw_okq (q : MethodName × Nat) : Prop := (q.1.cls ≠ "java/lang/invoke/MethodHandle" ∧ q.1.cls ≠ "java/lang/invoke/VarHandle") ∧ Cond.instantiable q.1.cls q.2 ∈ tables_1 ∧ Cond.privateMethod q.1 ∈ tables_1 ∧ Cond.instanceMethod q.1 ∈ tables_1
theorem lw_p0 : lw_okq (⟨"CodeQuiz", "programAt", "(I)LCodeQuiz$Program;"⟩, 18) := ⟨⟨by decide +kernel, by decide +kernel⟩, List.mem_of_getElem? (i := 12) (by decide +kernel), List.mem_of_getElem? (i := 189) (by decide +kernel), List.mem_of_getElem? (i := 190) (by decide +kernel)⟩
theorem lw_p1 : lw_okq (⟨"CodeQuiz$Program", "isWhole", "()Z"⟩, 9) := ⟨⟨by decide +kernel, by decide +kernel⟩, List.mem_of_getElem? (i := 141) (by decide +kernel), List.mem_of_getElem? (i := 205) (by decide +kernel), List.mem_of_getElem? (i := 206) (by decide +kernel)⟩
theorem lw_p2 : lw_okq (⟨"CodeQuiz$Program", "append", "(III)I"⟩, 9) := ⟨⟨by decide +kernel, by decide +kernel⟩, List.mem_of_getElem? (i := 141) (by decide +kernel), List.mem_of_getElem? (i := 209) (by decide +kernel), List.mem_of_getElem? (i := 210) (by decide +kernel)⟩
theorem lw_p3 : lw_okq (⟨"CodeQuiz$Program", "hasLine", "(I)Z"⟩, 9) := ⟨⟨by decide +kernel, by decide +kernel⟩, List.mem_of_getElem? (i := 141) (by decide +kernel), List.mem_of_getElem? (i := 217) (by decide +kernel), List.mem_of_getElem? (i := 218) (by decide +kernel)⟩
theorem lw_p4 : lw_okq (⟨"CodeQuiz$Machine", "perform", "(LCodeQuiz$Program;II)V"⟩, 9) := ⟨⟨by decide +kernel, by decide +kernel⟩, List.mem_of_getElem? (i := 26) (by decide +kernel), List.mem_of_getElem? (i := 236) (by decide +kernel), List.mem_of_getElem? (i := 237) (by decide +kernel)⟩
theorem lw_p5 : lw_okq (⟨"CodeQuiz$Machine", "begin", "(I)V"⟩, 9) := ⟨⟨by decide +kernel, by decide +kernel⟩, List.mem_of_getElem? (i := 26) (by decide +kernel), List.mem_of_getElem? (i := 240) (by decide +kernel), List.mem_of_getElem? (i := 241) (by decide +kernel)⟩
theorem lw_p6 : lw_okq (⟨"CodeQuiz$Machine", "doLine", "(LCodeQuiz$Program;I)I"⟩, 9) := ⟨⟨by decide +kernel, by decide +kernel⟩, List.mem_of_getElem? (i := 26) (by decide +kernel), List.mem_of_getElem? (i := 245) (by decide +kernel), List.mem_of_getElem? (i := 246) (by decide +kernel)⟩
theorem lw_p7 : lw_okq (⟨"CodeQuiz$Machine", "has", "(I)Z"⟩, 9) := ⟨⟨by decide +kernel, by decide +kernel⟩, List.mem_of_getElem? (i := 26) (by decide +kernel), List.mem_of_getElem? (i := 249) (by decide +kernel), List.mem_of_getElem? (i := 250) (by decide +kernel)⟩
theorem lw_p8 : lw_okq (⟨"CodeQuiz$Machine", "enterLoop", "(IIZ)Z"⟩, 9) := ⟨⟨by decide +kernel, by decide +kernel⟩, List.mem_of_getElem? (i := 26) (by decide +kernel), List.mem_of_getElem? (i := 253) (by decide +kernel), List.mem_of_getElem? (i := 254) (by decide +kernel)⟩
theorem lw_p9 : lw_okq (⟨"CodeQuiz$Machine", "isLess", "(IIZ)Z"⟩, 9) := ⟨⟨by decide +kernel, by decide +kernel⟩, List.mem_of_getElem? (i := 26) (by decide +kernel), List.mem_of_getElem? (i := 257) (by decide +kernel), List.mem_of_getElem? (i := 258) (by decide +kernel)⟩
theorem lw_p10 : lw_okq (⟨"CodeQuiz$Machine", "goesRound", "(LCodeQuiz$Program;I)Z"⟩, 9) := ⟨⟨by decide +kernel, by decide +kernel⟩, List.mem_of_getElem? (i := 26) (by decide +kernel), List.mem_of_getElem? (i := 261) (by decide +kernel), List.mem_of_getElem? (i := 262) (by decide +kernel)⟩
theorem lw_p11 : lw_okq (⟨"CodeQuiz$Machine", "placeOf", "(II)I"⟩, 9) := ⟨⟨by decide +kernel, by decide +kernel⟩, List.mem_of_getElem? (i := 26) (by decide +kernel), List.mem_of_getElem? (i := 265) (by decide +kernel), List.mem_of_getElem? (i := 266) (by decide +kernel)⟩
theorem lw_p12 : lw_okq (⟨"CodeQuiz$Machine", "doShare", "(IIZ)V"⟩, 9) := ⟨⟨by decide +kernel, by decide +kernel⟩, List.mem_of_getElem? (i := 26) (by decide +kernel), List.mem_of_getElem? (i := 269) (by decide +kernel), List.mem_of_getElem? (i := 270) (by decide +kernel)⟩
theorem lw_p13 : lw_okq (⟨"CodeQuiz$Machine", "cellOf", "(I)I"⟩, 9) := ⟨⟨by decide +kernel, by decide +kernel⟩, List.mem_of_getElem? (i := 26) (by decide +kernel), List.mem_of_getElem? (i := 277) (by decide +kernel), List.mem_of_getElem? (i := 278) (by decide +kernel)⟩
theorem lw_p14 : lw_okq (⟨"CodeQuiz$Machine", "namesShare", "()Z"⟩, 9) := ⟨⟨by decide +kernel, by decide +kernel⟩, List.mem_of_getElem? (i := 26) (by decide +kernel), List.mem_of_getElem? (i := 281) (by decide +kernel), List.mem_of_getElem? (i := 282) (by decide +kernel)⟩
theorem lw_p15 : lw_okq (⟨"CodeQuiz", "questionAt", "(I)LCodeQuiz$Question;"⟩, 18) := ⟨⟨by decide +kernel, by decide +kernel⟩, List.mem_of_getElem? (i := 12) (by decide +kernel), List.mem_of_getElem? (i := 329) (by decide +kernel), List.mem_of_getElem? (i := 330) (by decide +kernel)⟩
def lw_privs_1 : List (MethodName × Nat) := [(⟨"CodeQuiz", "programAt", "(I)LCodeQuiz$Program;"⟩, 18), (⟨"CodeQuiz$Program", "isWhole", "()Z"⟩, 9), (⟨"CodeQuiz$Program", "append", "(III)I"⟩, 9), (⟨"CodeQuiz$Program", "hasLine", "(I)Z"⟩, 9), (⟨"CodeQuiz$Machine", "perform", "(LCodeQuiz$Program;II)V"⟩, 9), (⟨"CodeQuiz$Machine", "begin", "(I)V"⟩, 9), (⟨"CodeQuiz$Machine", "doLine", "(LCodeQuiz$Program;I)I"⟩, 9), (⟨"CodeQuiz$Machine", "has", "(I)Z"⟩, 9), (⟨"CodeQuiz$Machine", "enterLoop", "(IIZ)Z"⟩, 9), (⟨"CodeQuiz$Machine", "isLess", "(IIZ)Z"⟩, 9), (⟨"CodeQuiz$Machine", "goesRound", "(LCodeQuiz$Program;I)Z"⟩, 9), (⟨"CodeQuiz$Machine", "placeOf", "(II)I"⟩, 9), (⟨"CodeQuiz$Machine", "doShare", "(IIZ)V"⟩, 9), (⟨"CodeQuiz$Machine", "cellOf", "(I)I"⟩, 9), (⟨"CodeQuiz$Machine", "namesShare", "()Z"⟩, 9), (⟨"CodeQuiz", "questionAt", "(I)LCodeQuiz$Question;"⟩, 18)]
theorem lw_r1 : ∀ q ∈ lw_privs_1, lw_okq q := List.forall_mem_cons.mpr ⟨lw_p0, List.forall_mem_cons.mpr ⟨lw_p1, List.forall_mem_cons.mpr ⟨lw_p2, List.forall_mem_cons.mpr ⟨lw_p3, List.forall_mem_cons.mpr ⟨lw_p4, List.forall_mem_cons.mpr ⟨lw_p5, List.forall_mem_cons.mpr ⟨lw_p6, List.forall_mem_cons.mpr ⟨lw_p7, List.forall_mem_cons.mpr ⟨lw_p8, List.forall_mem_cons.mpr ⟨lw_p9, List.forall_mem_cons.mpr ⟨lw_p10, List.forall_mem_cons.mpr ⟨lw_p11, List.forall_mem_cons.mpr ⟨lw_p12, List.forall_mem_cons.mpr ⟨lw_p13, List.forall_mem_cons.mpr ⟨lw_p14, List.forall_mem_cons.mpr ⟨lw_p15, fun _ h => absurd h List.not_mem_nil⟩⟩⟩⟩⟩⟩⟩⟩⟩⟩⟩⟩⟩⟩⟩⟩
theorem lw_p16 : lw_okq (⟨"CodeQuiz", "answerBy", "(LCodeQuiz$Question;I)I"⟩, 18) := ⟨⟨by decide +kernel, by decide +kernel⟩, List.mem_of_getElem? (i := 12) (by decide +kernel), List.mem_of_getElem? (i := 333) (by decide +kernel), List.mem_of_getElem? (i := 334) (by decide +kernel)⟩
theorem lw_p17 : lw_okq (⟨"CodeQuiz$Question", "knows", "(I)Z"⟩, 6) := ⟨⟨by decide +kernel, by decide +kernel⟩, List.mem_of_getElem? (i := 295) (by decide +kernel), List.mem_of_getElem? (i := 337) (by decide +kernel), List.mem_of_getElem? (i := 338) (by decide +kernel)⟩
theorem lw_p18 : lw_okq (⟨"CodeQuiz$Machine", "answerTo", "(II)I"⟩, 9) := ⟨⟨by decide +kernel, by decide +kernel⟩, List.mem_of_getElem? (i := 26) (by decide +kernel), List.mem_of_getElem? (i := 344) (by decide +kernel), List.mem_of_getElem? (i := 345) (by decide +kernel)⟩
theorem lw_p19 : lw_okq (⟨"CodeQuiz$Question", "keep", "(II)V"⟩, 6) := ⟨⟨by decide +kernel, by decide +kernel⟩, List.mem_of_getElem? (i := 295) (by decide +kernel), List.mem_of_getElem? (i := 349) (by decide +kernel), List.mem_of_getElem? (i := 350) (by decide +kernel)⟩
theorem lw_p20 : lw_okq (⟨"CodeQuiz", "listChoices", "(LCodeQuiz$Question;)I"⟩, 18) := ⟨⟨by decide +kernel, by decide +kernel⟩, List.mem_of_getElem? (i := 12) (by decide +kernel), List.mem_of_getElem? (i := 357) (by decide +kernel), List.mem_of_getElem? (i := 358) (by decide +kernel)⟩
theorem lw_p21 : lw_okq (⟨"CodeQuiz", "isListed", "(II)Z"⟩, 18) := ⟨⟨by decide +kernel, by decide +kernel⟩, List.mem_of_getElem? (i := 12) (by decide +kernel), List.mem_of_getElem? (i := 364) (by decide +kernel), List.mem_of_getElem? (i := 365) (by decide +kernel)⟩
theorem lw_p22 : lw_okq (⟨"CodeQuiz", "findFillings", "(LCodeQuiz$Program;I)J"⟩, 18) := ⟨⟨by decide +kernel, by decide +kernel⟩, List.mem_of_getElem? (i := 12) (by decide +kernel), List.mem_of_getElem? (i := 376) (by decide +kernel), List.mem_of_getElem? (i := 377) (by decide +kernel)⟩
theorem lw_p23 : lw_okq (⟨"CodeQuiz", "fillingsThatEndAlike", "(LCodeQuiz$Program;IIJ)J"⟩, 18) := ⟨⟨by decide +kernel, by decide +kernel⟩, List.mem_of_getElem? (i := 12) (by decide +kernel), List.mem_of_getElem? (i := 381) (by decide +kernel), List.mem_of_getElem? (i := 382) (by decide +kernel)⟩
theorem lw_p24 : lw_okq (⟨"CodeQuiz$Machine", "endsLike", "(LCodeQuiz$Machine;)Z"⟩, 9) := ⟨⟨by decide +kernel, by decide +kernel⟩, List.mem_of_getElem? (i := 26) (by decide +kernel), List.mem_of_getElem? (i := 386) (by decide +kernel), List.mem_of_getElem? (i := 387) (by decide +kernel)⟩
theorem lw_p25 : lw_okq (⟨"CodeQuiz$Machine", "endsWithVariablesOf", "(LCodeQuiz$Machine;)Z"⟩, 9) := ⟨⟨by decide +kernel, by decide +kernel⟩, List.mem_of_getElem? (i := 26) (by decide +kernel), List.mem_of_getElem? (i := 390) (by decide +kernel), List.mem_of_getElem? (i := 391) (by decide +kernel)⟩
theorem lw_p26 : lw_okq (⟨"CodeQuiz$Pupil", "note", "(II)I"⟩, 2) := ⟨⟨by decide +kernel, by decide +kernel⟩, List.mem_of_getElem? (i := 66) (by decide +kernel), List.mem_of_getElem? (i := 424) (by decide +kernel), List.mem_of_getElem? (i := 425) (by decide +kernel)⟩
theorem lw_p27 : lw_okq (⟨"CodeQuiz", "costOf", "(LCodeQuiz$Pupil;I)I"⟩, 18) := ⟨⟨by decide +kernel, by decide +kernel⟩, List.mem_of_getElem? (i := 12) (by decide +kernel), List.mem_of_getElem? (i := 443) (by decide +kernel), List.mem_of_getElem? (i := 444) (by decide +kernel)⟩
theorem lw_p28 : lw_okq (⟨"CodeQuiz$Pupil", "hasAnswered", "(I)Z"⟩, 2) := ⟨⟨by decide +kernel, by decide +kernel⟩, List.mem_of_getElem? (i := 66) (by decide +kernel), List.mem_of_getElem? (i := 447) (by decide +kernel), List.mem_of_getElem? (i := 448) (by decide +kernel)⟩
theorem lw_p29 : lw_okq (⟨"CodeQuiz", "findSets", "(LCodeQuiz$Pupil;)J"⟩, 18) := ⟨⟨by decide +kernel, by decide +kernel⟩, List.mem_of_getElem? (i := 12) (by decide +kernel), List.mem_of_getElem? (i := 456) (by decide +kernel), List.mem_of_getElem? (i := 457) (by decide +kernel)⟩
theorem lw_p30 : lw_okq (⟨"CodeQuiz", "listSetAnswers", "(LCodeQuiz$Question;J)I"⟩, 18) := ⟨⟨by decide +kernel, by decide +kernel⟩, List.mem_of_getElem? (i := 12) (by decide +kernel), List.mem_of_getElem? (i := 469) (by decide +kernel), List.mem_of_getElem? (i := 470) (by decide +kernel)⟩
theorem lw_p31 : lw_okq (⟨"CodeQuiz", "mostAlike", "(I)I"⟩, 18) := ⟨⟨by decide +kernel, by decide +kernel⟩, List.mem_of_getElem? (i := 12) (by decide +kernel), List.mem_of_getElem? (i := 473) (by decide +kernel), List.mem_of_getElem? (i := 474) (by decide +kernel)⟩
def lw_privs_2 : List (MethodName × Nat) := [(⟨"CodeQuiz", "answerBy", "(LCodeQuiz$Question;I)I"⟩, 18), (⟨"CodeQuiz$Question", "knows", "(I)Z"⟩, 6), (⟨"CodeQuiz$Machine", "answerTo", "(II)I"⟩, 9), (⟨"CodeQuiz$Question", "keep", "(II)V"⟩, 6), (⟨"CodeQuiz", "listChoices", "(LCodeQuiz$Question;)I"⟩, 18), (⟨"CodeQuiz", "isListed", "(II)Z"⟩, 18), (⟨"CodeQuiz", "findFillings", "(LCodeQuiz$Program;I)J"⟩, 18), (⟨"CodeQuiz", "fillingsThatEndAlike", "(LCodeQuiz$Program;IIJ)J"⟩, 18), (⟨"CodeQuiz$Machine", "endsLike", "(LCodeQuiz$Machine;)Z"⟩, 9), (⟨"CodeQuiz$Machine", "endsWithVariablesOf", "(LCodeQuiz$Machine;)Z"⟩, 9), (⟨"CodeQuiz$Pupil", "note", "(II)I"⟩, 2), (⟨"CodeQuiz", "costOf", "(LCodeQuiz$Pupil;I)I"⟩, 18), (⟨"CodeQuiz$Pupil", "hasAnswered", "(I)Z"⟩, 2), (⟨"CodeQuiz", "findSets", "(LCodeQuiz$Pupil;)J"⟩, 18), (⟨"CodeQuiz", "listSetAnswers", "(LCodeQuiz$Question;J)I"⟩, 18), (⟨"CodeQuiz", "mostAlike", "(I)I"⟩, 18)]
theorem lw_r2 : ∀ q ∈ lw_privs_2, lw_okq q := List.forall_mem_cons.mpr ⟨lw_p16, List.forall_mem_cons.mpr ⟨lw_p17, List.forall_mem_cons.mpr ⟨lw_p18, List.forall_mem_cons.mpr ⟨lw_p19, List.forall_mem_cons.mpr ⟨lw_p20, List.forall_mem_cons.mpr ⟨lw_p21, List.forall_mem_cons.mpr ⟨lw_p22, List.forall_mem_cons.mpr ⟨lw_p23, List.forall_mem_cons.mpr ⟨lw_p24, List.forall_mem_cons.mpr ⟨lw_p25, List.forall_mem_cons.mpr ⟨lw_p26, List.forall_mem_cons.mpr ⟨lw_p27, List.forall_mem_cons.mpr ⟨lw_p28, List.forall_mem_cons.mpr ⟨lw_p29, List.forall_mem_cons.mpr ⟨lw_p30, List.forall_mem_cons.mpr ⟨lw_p31, fun _ h => absurd h List.not_mem_nil⟩⟩⟩⟩⟩⟩⟩⟩⟩⟩⟩⟩⟩⟩⟩⟩
theorem lw_p32 : lw_okq (⟨"CodeQuiz", "pairsParted", "(LCodeQuiz$Question;)I"⟩, 18) := ⟨⟨by decide +kernel, by decide +kernel⟩, List.mem_of_getElem? (i := 12) (by decide +kernel), List.mem_of_getElem? (i := 487) (by decide +kernel), List.mem_of_getElem? (i := 488) (by decide +kernel)⟩
theorem lw_p33 : lw_okq (⟨"CodeQuiz", "partsAll", "(I)Z"⟩, 18) := ⟨⟨by decide +kernel, by decide +kernel⟩, List.mem_of_getElem? (i := 12) (by decide +kernel), List.mem_of_getElem? (i := 491) (by decide +kernel), List.mem_of_getElem? (i := 492) (by decide +kernel)⟩
theorem lw_p34 : lw_okq (⟨"CodeQuizModel", "isProgram", "(I)Z"⟩, 33) := ⟨⟨by decide +kernel, by decide +kernel⟩, List.mem_of_getElem? (i := 500) (by decide +kernel), List.mem_of_getElem? (i := 615) (by decide +kernel), List.mem_of_getElem? (i := 616) (by decide +kernel)⟩
theorem lw_p35 : lw_okq (⟨"CodeQuizModel", "openAhead", "(II)I"⟩, 33) := ⟨⟨by decide +kernel, by decide +kernel⟩, List.mem_of_getElem? (i := 500) (by decide +kernel), List.mem_of_getElem? (i := 625) (by decide +kernel), List.mem_of_getElem? (i := 626) (by decide +kernel)⟩
theorem lw_p36 : lw_okq (⟨"CodeQuizModel", "isWhole", "(I)Z"⟩, 33) := ⟨⟨by decide +kernel, by decide +kernel⟩, List.mem_of_getElem? (i := 500) (by decide +kernel), List.mem_of_getElem? (i := 638) (by decide +kernel), List.mem_of_getElem? (i := 639) (by decide +kernel)⟩
theorem lw_p37 : lw_okq (⟨"CodeQuizModel", "runLines", "(IIIII)V"⟩, 33) := ⟨⟨by decide +kernel, by decide +kernel⟩, List.mem_of_getElem? (i := 500) (by decide +kernel), List.mem_of_getElem? (i := 646) (by decide +kernel), List.mem_of_getElem? (i := 647) (by decide +kernel)⟩
theorem lw_p38 : lw_okq (⟨"CodeQuizModel", "doLine", "(IIII)I"⟩, 33) := ⟨⟨by decide +kernel, by decide +kernel⟩, List.mem_of_getElem? (i := 500) (by decide +kernel), List.mem_of_getElem? (i := 650) (by decide +kernel), List.mem_of_getElem? (i := 651) (by decide +kernel)⟩
theorem lw_p39 : lw_okq (⟨"CodeQuizModel", "endOf", "(II)I"⟩, 33) := ⟨⟨by decide +kernel, by decide +kernel⟩, List.mem_of_getElem? (i := 500) (by decide +kernel), List.mem_of_getElem? (i := 657) (by decide +kernel), List.mem_of_getElem? (i := 658) (by decide +kernel)⟩
theorem lw_p40 : lw_okq (⟨"CodeQuizModel", "ended", "(II)I"⟩, 33) := ⟨⟨by decide +kernel, by decide +kernel⟩, List.mem_of_getElem? (i := 500) (by decide +kernel), List.mem_of_getElem? (i := 661) (by decide +kernel), List.mem_of_getElem? (i := 662) (by decide +kernel)⟩
theorem lw_p41 : lw_okq (⟨"CodeQuizModel", "beginOf", "(II)I"⟩, 33) := ⟨⟨by decide +kernel, by decide +kernel⟩, List.mem_of_getElem? (i := 500) (by decide +kernel), List.mem_of_getElem? (i := 665) (by decide +kernel), List.mem_of_getElem? (i := 666) (by decide +kernel)⟩
theorem lw_p42 : lw_okq (⟨"CodeQuizModel", "rows", "(IIII)V"⟩, 33) := ⟨⟨by decide +kernel, by decide +kernel⟩, List.mem_of_getElem? (i := 500) (by decide +kernel), List.mem_of_getElem? (i := 669) (by decide +kernel), List.mem_of_getElem? (i := 670) (by decide +kernel)⟩
theorem lw_p43 : lw_okq (⟨"CodeQuizModel", "end", "(I)I"⟩, 33) := ⟨⟨by decide +kernel, by decide +kernel⟩, List.mem_of_getElem? (i := 500) (by decide +kernel), List.mem_of_getElem? (i := 673) (by decide +kernel), List.mem_of_getElem? (i := 674) (by decide +kernel)⟩
theorem lw_p44 : lw_okq (⟨"CodeQuizModel", "isQuestion", "(I)Z"⟩, 33) := ⟨⟨by decide +kernel, by decide +kernel⟩, List.mem_of_getElem? (i := 500) (by decide +kernel), List.mem_of_getElem? (i := 693) (by decide +kernel), List.mem_of_getElem? (i := 694) (by decide +kernel)⟩
theorem lw_p45 : lw_okq (⟨"CodeQuizModel", "answerOf", "(II)I"⟩, 33) := ⟨⟨by decide +kernel, by decide +kernel⟩, List.mem_of_getElem? (i := 500) (by decide +kernel), List.mem_of_getElem? (i := 697) (by decide +kernel), List.mem_of_getElem? (i := 698) (by decide +kernel)⟩
theorem lw_p46 : lw_okq (⟨"CodeQuizModel", "costOf", "(II)I"⟩, 33) := ⟨⟨by decide +kernel, by decide +kernel⟩, List.mem_of_getElem? (i := 500) (by decide +kernel), List.mem_of_getElem? (i := 743) (by decide +kernel), List.mem_of_getElem? (i := 744) (by decide +kernel)⟩
theorem lw_p47 : lw_okq (⟨"CodeQuizModel", "findSets", "(I)V"⟩, 33) := ⟨⟨by decide +kernel, by decide +kernel⟩, List.mem_of_getElem? (i := 500) (by decide +kernel), List.mem_of_getElem? (i := 751) (by decide +kernel), List.mem_of_getElem? (i := 752) (by decide +kernel)⟩
def lw_privs_3 : List (MethodName × Nat) := [(⟨"CodeQuiz", "pairsParted", "(LCodeQuiz$Question;)I"⟩, 18), (⟨"CodeQuiz", "partsAll", "(I)Z"⟩, 18), (⟨"CodeQuizModel", "isProgram", "(I)Z"⟩, 33), (⟨"CodeQuizModel", "openAhead", "(II)I"⟩, 33), (⟨"CodeQuizModel", "isWhole", "(I)Z"⟩, 33), (⟨"CodeQuizModel", "runLines", "(IIIII)V"⟩, 33), (⟨"CodeQuizModel", "doLine", "(IIII)I"⟩, 33), (⟨"CodeQuizModel", "endOf", "(II)I"⟩, 33), (⟨"CodeQuizModel", "ended", "(II)I"⟩, 33), (⟨"CodeQuizModel", "beginOf", "(II)I"⟩, 33), (⟨"CodeQuizModel", "rows", "(IIII)V"⟩, 33), (⟨"CodeQuizModel", "end", "(I)I"⟩, 33), (⟨"CodeQuizModel", "isQuestion", "(I)Z"⟩, 33), (⟨"CodeQuizModel", "answerOf", "(II)I"⟩, 33), (⟨"CodeQuizModel", "costOf", "(II)I"⟩, 33), (⟨"CodeQuizModel", "findSets", "(I)V"⟩, 33)]
theorem lw_r3 : ∀ q ∈ lw_privs_3, lw_okq q := List.forall_mem_cons.mpr ⟨lw_p32, List.forall_mem_cons.mpr ⟨lw_p33, List.forall_mem_cons.mpr ⟨lw_p34, List.forall_mem_cons.mpr ⟨lw_p35, List.forall_mem_cons.mpr ⟨lw_p36, List.forall_mem_cons.mpr ⟨lw_p37, List.forall_mem_cons.mpr ⟨lw_p38, List.forall_mem_cons.mpr ⟨lw_p39, List.forall_mem_cons.mpr ⟨lw_p40, List.forall_mem_cons.mpr ⟨lw_p41, List.forall_mem_cons.mpr ⟨lw_p42, List.forall_mem_cons.mpr ⟨lw_p43, List.forall_mem_cons.mpr ⟨lw_p44, List.forall_mem_cons.mpr ⟨lw_p45, List.forall_mem_cons.mpr ⟨lw_p46, List.forall_mem_cons.mpr ⟨lw_p47, fun _ h => absurd h List.not_mem_nil⟩⟩⟩⟩⟩⟩⟩⟩⟩⟩⟩⟩⟩⟩⟩⟩
theorem lw_p48 : lw_okq (⟨"CodeQuizModel", "greatest", "(I)I"⟩, 33) := ⟨⟨by decide +kernel, by decide +kernel⟩, List.mem_of_getElem? (i := 500) (by decide +kernel), List.mem_of_getElem? (i := 763) (by decide +kernel), List.mem_of_getElem? (i := 764) (by decide +kernel)⟩
theorem lw_p49 : lw_okq (⟨"CodeQuizModel", "tellApart", "(IIII)Z"⟩, 33) := ⟨⟨by decide +kernel, by decide +kernel⟩, List.mem_of_getElem? (i := 500) (by decide +kernel), List.mem_of_getElem? (i := 771) (by decide +kernel), List.mem_of_getElem? (i := 772) (by decide +kernel)⟩
def lw_privs_4 : List (MethodName × Nat) := [(⟨"CodeQuizModel", "greatest", "(I)I"⟩, 33), (⟨"CodeQuizModel", "tellApart", "(IIII)Z"⟩, 33)]
theorem lw_r4 : ∀ q ∈ lw_privs_4, lw_okq q := List.forall_mem_cons.mpr ⟨lw_p48, List.forall_mem_cons.mpr ⟨lw_p49, fun _ h => absurd h List.not_mem_nil⟩⟩
def lw_privs : List (MethodName × Nat) := lw_privs_1 ++ (lw_privs_2 ++ (lw_privs_3 ++ (lw_privs_4)))
def lw_tbl : List Cond := k2_sels lw_privs ++ tables_1
theorem lw_privs_ok : ∀ q ∈ lw_privs, lw_okq q := by
  show ∀ q ∈ lw_privs_1 ++ (lw_privs_2 ++ (lw_privs_3 ++ (lw_privs_4))), lw_okq q
  exact List.forall_mem_append.mpr ⟨lw_r1, List.forall_mem_append.mpr ⟨lw_r2, List.forall_mem_append.mpr ⟨lw_r3, lw_r4⟩⟩⟩
end
section
def RX0 : String := "CodeQuiz$Machine"
def TX0 : u_T := fun k => match k with
  | 0 => ("CodeQuiz$Machine", "variables", "[I", true)
  | 1 => ("CodeQuiz$Machine", "cells", "[I", true)
  | 2 => ("CodeQuiz$Machine", "rowStarts", "[I", true)
  | 3 => ("CodeQuiz$Machine", "timesDone", "[I", true)
  | 4 => ("CodeQuiz$Machine", "roundsLeft", "[J", true)
  | 5 => ("CodeQuiz$Machine", "slips", "I", false)
  | 6 => ("CodeQuiz$Machine", "linesKnown", "I", false)
  | 7 => ("CodeQuiz$Machine", "steps", "I", false)
  | _ => ("CodeQuiz$Machine", "spent", "Z", false)
def tyX0 : Nat → FieldType := fun k => match k with
  | 0 => .array .int
  | 1 => .array .int
  | 2 => .array .int
  | 3 => .array .int
  | 4 => .array .long
  | 5 => .int
  | 6 => .int
  | 7 => .int
  | _ => .boolean
abbrev wsX00 : List Cond := u_ws RX0 TX0 9
theorem nmX0 : ∀ a, a < 9 → ∀ b, b < 9 → a ≠ b → (TX0 a).2.1 ≠ (TX0 b).2.1 := by decide +kernel
theorem tyX0_ok : ∀ k, k < 9 → parseFieldDescriptor (TX0 k).2.2.1 = some (tyX0 k) := by decide +kernel
abbrev cX0_init : ByteArray := prog_2_method_1_code
def yX0_init : MethodName := ⟨RX0, "<init>", "()V"⟩
abbrev cX0_perform : ByteArray := prog_2_method_2_code
def yX0_perform : MethodName := ⟨RX0, "perform", "(LCodeQuiz$Program;II)V"⟩
abbrev cX0_begin : ByteArray := prog_2_method_3_code
def yX0_begin : MethodName := ⟨RX0, "begin", "(I)V"⟩
abbrev cX0_has : ByteArray := prog_2_method_4_code
def yX0_has : MethodName := ⟨RX0, "has", "(I)Z"⟩
abbrev cX0_doLine : ByteArray := prog_2_method_5_code
def yX0_doLine : MethodName := ⟨RX0, "doLine", "(LCodeQuiz$Program;I)I"⟩
abbrev cX0_enterLoop : ByteArray := prog_2_method_6_code
def yX0_enterLoop : MethodName := ⟨RX0, "enterLoop", "(IIZ)Z"⟩
abbrev cX0_isLess : ByteArray := prog_2_method_7_code
def yX0_isLess : MethodName := ⟨RX0, "isLess", "(IIZ)Z"⟩
abbrev cX0_goesRound : ByteArray := prog_2_method_8_code
def yX0_goesRound : MethodName := ⟨RX0, "goesRound", "(LCodeQuiz$Program;I)Z"⟩
abbrev cX0_placeOf : ByteArray := prog_2_method_9_code
def yX0_placeOf : MethodName := ⟨RX0, "placeOf", "(II)I"⟩
abbrev cX0_doShare : ByteArray := prog_2_method_10_code
def yX0_doShare : MethodName := ⟨RX0, "doShare", "(IIZ)V"⟩
abbrev cX0_cellOf : ByteArray := prog_2_method_11_code
def yX0_cellOf : MethodName := ⟨RX0, "cellOf", "(I)I"⟩
abbrev cX0_namesShare : ByteArray := prog_2_method_12_code
def yX0_namesShare : MethodName := ⟨RX0, "namesShare", "()Z"⟩
abbrev cX0_answerTo : ByteArray := prog_2_method_13_code
def yX0_answerTo : MethodName := ⟨RX0, "answerTo", "(II)I"⟩
abbrev cX0_endsWithVariablesOf : ByteArray := prog_2_method_14_code
def yX0_endsWithVariablesOf : MethodName := ⟨RX0, "endsWithVariablesOf", "(LCodeQuiz$Machine;)Z"⟩
abbrev cX0_endsLike : ByteArray := prog_2_method_15_code
def yX0_endsLike : MethodName := ⟨RX0, "endsLike", "(LCodeQuiz$Machine;)Z"⟩
def RX1 : String := "CodeQuiz$Program"
def TX1 : u_T := fun k => match k with
  | 0 => ("CodeQuiz$Program", "ops", "[I", true)
  | 1 => ("CodeQuiz$Program", "xs", "[I", true)
  | 2 => ("CodeQuiz$Program", "ys", "[I", true)
  | 3 => ("CodeQuiz$Program", "depths", "[I", true)
  | 4 => ("CodeQuiz$Program", "mates", "[I", true)
  | 5 => ("CodeQuiz$Program", "openLines", "[I", true)
  | 6 => ("CodeQuiz$Program", "openCount", "I", false)
  | 7 => ("CodeQuiz$Program", "size", "I", false)
  | _ => ("CodeQuiz$Program", "asked", "Z", false)
def tyX1 : Nat → FieldType := fun k => match k with
  | 0 => .array .int
  | 1 => .array .int
  | 2 => .array .int
  | 3 => .array .int
  | 4 => .array .int
  | 5 => .array .int
  | 6 => .int
  | 7 => .int
  | _ => .boolean
abbrev wsX10 : List Cond := u_ws RX1 TX1 9
theorem nmX1 : ∀ a, a < 9 → ∀ b, b < 9 → a ≠ b → (TX1 a).2.1 ≠ (TX1 b).2.1 := by decide +kernel
theorem tyX1_ok : ∀ k, k < 9 → parseFieldDescriptor (TX1 k).2.2.1 = some (tyX1 k) := by decide +kernel
abbrev cX1_init : ByteArray := prog_3_method_1_code
def yX1_init : MethodName := ⟨RX1, "<init>", "()V"⟩
abbrev cX1_hasLine : ByteArray := prog_3_method_2_code
def yX1_hasLine : MethodName := ⟨RX1, "hasLine", "(I)Z"⟩
abbrev cX1_isWhole : ByteArray := prog_3_method_3_code
def yX1_isWhole : MethodName := ⟨RX1, "isWhole", "()Z"⟩
abbrev cX1_append : ByteArray := prog_3_method_4_code
def yX1_append : MethodName := ⟨RX1, "append", "(III)I"⟩
def RX2 : String := "CodeQuiz$Pupil"
def TX2 : u_T := fun k => match k with
  | 0 => ("CodeQuiz$Pupil", "values", "[I", true)
  | _ => ("CodeQuiz$Pupil", "answered", "J", false)
def tyX2 : Nat → FieldType := fun k => match k with
  | 0 => .array .int
  | _ => .long
abbrev wsX20 : List Cond := u_ws RX2 TX2 2
theorem nmX2 : ∀ a, a < 2 → ∀ b, b < 2 → a ≠ b → (TX2 a).2.1 ≠ (TX2 b).2.1 := by decide +kernel
theorem tyX2_ok : ∀ k, k < 2 → parseFieldDescriptor (TX2 k).2.2.1 = some (tyX2 k) := by decide +kernel
abbrev cX2_init : ByteArray := prog_4_method_1_code
def yX2_init : MethodName := ⟨RX2, "<init>", "()V"⟩
abbrev cX2_hasAnswered : ByteArray := prog_4_method_2_code
def yX2_hasAnswered : MethodName := ⟨RX2, "hasAnswered", "(I)Z"⟩
abbrev cX2_note : ByteArray := prog_4_method_3_code
def yX2_note : MethodName := ⟨RX2, "note", "(II)I"⟩
def RX3 : String := "CodeQuiz$Question"
def TX3 : u_T := fun k => match k with
  | 0 => ("CodeQuiz$Question", "program", "LCodeQuiz$Program;", true)
  | 1 => ("CodeQuiz$Question", "input", "I", true)
  | 2 => ("CodeQuiz$Question", "kind", "I", true)
  | 3 => ("CodeQuiz$Question", "what", "I", true)
  | 4 => ("CodeQuiz$Question", "answers", "[I", true)
  | _ => ("CodeQuiz$Question", "known", "J", false)
def tyX3 : Nat → FieldType := fun k => match k with
  | 0 => .object "CodeQuiz$Program"
  | 1 => .int
  | 2 => .int
  | 3 => .int
  | 4 => .array .int
  | _ => .long
abbrev wsX30 : List Cond := u_ws RX3 TX3 6
theorem nmX3 : ∀ a, a < 6 → ∀ b, b < 6 → a ≠ b → (TX3 a).2.1 ≠ (TX3 b).2.1 := by decide +kernel
theorem tyX3_ok : ∀ k, k < 6 → parseFieldDescriptor (TX3 k).2.2.1 = some (tyX3 k) := by decide +kernel
abbrev cX3_init : ByteArray := prog_5_method_1_code
def yX3_init : MethodName := ⟨RX3, "<init>", "(LCodeQuiz$Program;III)V"⟩
abbrev cX3_knows : ByteArray := prog_5_method_2_code
def yX3_knows : MethodName := ⟨RX3, "knows", "(I)Z"⟩
abbrev cX3_keep : ByteArray := prog_5_method_3_code
def yX3_keep : MethodName := ⟨RX3, "keep", "(II)V"⟩
def RX4 : String := "CodeQuiz"
def TX4 : u_T := fun k => match k with
  | 0 => ("CodeQuiz", "programs", "[LCodeQuiz$Program;", true)
  | 1 => ("CodeQuiz", "questions", "[LCodeQuiz$Question;", true)
  | 2 => ("CodeQuiz", "pupils", "[LCodeQuiz$Pupil;", true)
  | 3 => ("CodeQuiz", "prices", "[I", true)
  | 4 => ("CodeQuiz", "latest", "LCodeQuiz$Machine;", true)
  | 5 => ("CodeQuiz", "first", "LCodeQuiz$Machine;", true)
  | 6 => ("CodeQuiz", "second", "LCodeQuiz$Machine;", true)
  | 7 => ("CodeQuiz", "choiceValues", "[I", true)
  | 8 => ("CodeQuiz", "choiceSlips", "[I", true)
  | 9 => ("CodeQuiz", "setAnswers", "[I", true)
  | 10 => ("CodeQuiz", "partedPairs", "[I", true)
  | 11 => ("CodeQuiz", "programCount", "I", false)
  | 12 => ("CodeQuiz", "questionCount", "I", false)
  | 13 => ("CodeQuiz", "lineCount", "I", false)
  | 14 => ("CodeQuiz", "hasRun", "Z", false)
  | 15 => ("CodeQuiz", "latestChoicesQuestion", "I", false)
  | 16 => ("CodeQuiz", "latestChoicesCount", "I", false)
  | _ => ("CodeQuiz", "latestFillings", "J", false)
def tyX4 : Nat → FieldType := fun k => match k with
  | 0 => .array (.object "CodeQuiz$Program")
  | 1 => .array (.object "CodeQuiz$Question")
  | 2 => .array (.object "CodeQuiz$Pupil")
  | 3 => .array .int
  | 4 => .object "CodeQuiz$Machine"
  | 5 => .object "CodeQuiz$Machine"
  | 6 => .object "CodeQuiz$Machine"
  | 7 => .array .int
  | 8 => .array .int
  | 9 => .array .int
  | 10 => .array .int
  | 11 => .int
  | 12 => .int
  | 13 => .int
  | 14 => .boolean
  | 15 => .int
  | 16 => .int
  | _ => .long
abbrev wsX40 : List Cond := u_ws RX4 TX4 18
theorem nmX4 : ∀ a, a < 18 → ∀ b, b < 18 → a ≠ b → (TX4 a).2.1 ≠ (TX4 b).2.1 := by decide +kernel
theorem tyX4_ok : ∀ k, k < 18 → parseFieldDescriptor (TX4 k).2.2.1 = some (tyX4 k) := by decide +kernel
abbrev cX4_init : ByteArray := prog_1_method_1_code
def yX4_init : MethodName := ⟨RX4, "<init>", "()V"⟩
abbrev cX4_program : ByteArray := prog_1_method_2_code
def yX4_program : MethodName := ⟨RX4, "program", "()I"⟩
abbrev cX4_line : ByteArray := prog_1_method_3_code
def yX4_line : MethodName := ⟨RX4, "line", "(IIII)I"⟩
abbrev cX4_about : ByteArray := prog_1_method_4_code
def yX4_about : MethodName := ⟨RX4, "about", "(III)I"⟩
abbrev cX4_whole : ByteArray := prog_1_method_5_code
def yX4_whole : MethodName := ⟨RX4, "whole", "(I)I"⟩
abbrev cX4_run : ByteArray := prog_1_method_6_code
def yX4_run : MethodName := ⟨RX4, "run", "(III)I"⟩
abbrev cX4_told : ByteArray := prog_1_method_7_code
def yX4_told : MethodName := ⟨RX4, "told", "(I)I"⟩
abbrev cX4_done : ByteArray := prog_1_method_8_code
def yX4_done : MethodName := ⟨RX4, "done", "(I)I"⟩
abbrev cX4_question : ByteArray := prog_1_method_9_code
def yX4_question : MethodName := ⟨RX4, "question", "(IIII)I"⟩
abbrev cX4_answer : ByteArray := prog_1_method_10_code
def yX4_answer : MethodName := ⟨RX4, "answer", "(II)I"⟩
abbrev cX4_choices : ByteArray := prog_1_method_11_code
def yX4_choices : MethodName := ⟨RX4, "choices", "(II)I"⟩
abbrev cX4_choice : ByteArray := prog_1_method_12_code
def yX4_choice : MethodName := ⟨RX4, "choice", "(II)I"⟩
abbrev cX4_gap : ByteArray := prog_1_method_13_code
def yX4_gap : MethodName := ⟨RX4, "gap", "(II)I"⟩
abbrev cX4_filling : ByteArray := prog_1_method_14_code
def yX4_filling : MethodName := ⟨RX4, "filling", "(I)I"⟩
abbrev cX4_why : ByteArray := prog_1_method_15_code
def yX4_why : MethodName := ⟨RX4, "why", "(II)I"⟩
abbrev cX4_same : ByteArray := prog_1_method_16_code
def yX4_same : MethodName := ⟨RX4, "same", "(II)I"⟩
abbrev cX4_give : ByteArray := prog_1_method_17_code
def yX4_give : MethodName := ⟨RX4, "give", "(III)I"⟩
abbrev cX4_price : ByteArray := prog_1_method_18_code
def yX4_price : MethodName := ⟨RX4, "price", "(II)I"⟩
abbrev cX4_cost : ByteArray := prog_1_method_19_code
def yX4_cost : MethodName := ⟨RX4, "cost", "(II)I"⟩
abbrev cX4_sets : ByteArray := prog_1_method_20_code
def yX4_sets : MethodName := ⟨RX4, "sets", "(I)I"⟩
abbrev cX4_set : ByteArray := prog_1_method_21_code
def yX4_set : MethodName := ⟨RX4, "set", "(II)I"⟩
abbrev cX4_next : ByteArray := prog_1_method_22_code
def yX4_next : MethodName := ⟨RX4, "next", "(I)I"⟩
abbrev cX4_parting : ByteArray := prog_1_method_23_code
def yX4_parting : MethodName := ⟨RX4, "parting", "()I"⟩
abbrev cX4_count : ByteArray := prog_1_method_24_code
def yX4_count : MethodName := ⟨RX4, "count", "(I)I"⟩
abbrev cX4_programAt : ByteArray := prog_1_method_25_code
def yX4_programAt : MethodName := ⟨RX4, "programAt", "(I)LCodeQuiz$Program;"⟩
abbrev cX4_questionAt : ByteArray := prog_1_method_26_code
def yX4_questionAt : MethodName := ⟨RX4, "questionAt", "(I)LCodeQuiz$Question;"⟩
abbrev cX4_isPupil : ByteArray := prog_1_method_27_code
def yX4_isPupil : MethodName := ⟨RX4, "isPupil", "(I)Z"⟩
abbrev cX4_isInput : ByteArray := prog_1_method_28_code
def yX4_isInput : MethodName := ⟨RX4, "isInput", "(I)Z"⟩
abbrev cX4_isMachine : ByteArray := prog_1_method_29_code
def yX4_isMachine : MethodName := ⟨RX4, "isMachine", "(I)Z"⟩
abbrev cX4_isVariable : ByteArray := prog_1_method_30_code
def yX4_isVariable : MethodName := ⟨RX4, "isVariable", "(I)Z"⟩
abbrev cX4_isCell : ByteArray := prog_1_method_31_code
def yX4_isCell : MethodName := ⟨RX4, "isCell", "(I)Z"⟩
abbrev cX4_isName : ByteArray := prog_1_method_32_code
def yX4_isName : MethodName := ⟨RX4, "isName", "(I)Z"⟩
abbrev cX4_fitsOp : ByteArray := prog_1_method_33_code
def yX4_fitsOp : MethodName := ⟨RX4, "fitsOp", "(III)Z"⟩
abbrev cX4_isAskable : ByteArray := prog_1_method_34_code
def yX4_isAskable : MethodName := ⟨RX4, "isAskable", "(LCodeQuiz$Program;II)Z"⟩
abbrev cX4_answerBy : ByteArray := prog_1_method_35_code
def yX4_answerBy : MethodName := ⟨RX4, "answerBy", "(LCodeQuiz$Question;I)I"⟩
abbrev cX4_listChoices : ByteArray := prog_1_method_36_code
def yX4_listChoices : MethodName := ⟨RX4, "listChoices", "(LCodeQuiz$Question;)I"⟩
abbrev cX4_isListed : ByteArray := prog_1_method_37_code
def yX4_isListed : MethodName := ⟨RX4, "isListed", "(II)Z"⟩
abbrev cX4_singleMachine : ByteArray := prog_1_method_38_code
def yX4_singleMachine : MethodName := ⟨RX4, "singleMachine", "(I)I"⟩
abbrev cX4_findFillings : ByteArray := prog_1_method_39_code
def yX4_findFillings : MethodName := ⟨RX4, "findFillings", "(LCodeQuiz$Program;I)J"⟩
abbrev cX4_fillingsThatEndAlike : ByteArray := prog_1_method_40_code
def yX4_fillingsThatEndAlike : MethodName := ⟨RX4, "fillingsThatEndAlike", "(LCodeQuiz$Program;IIJ)J"⟩
abbrev cX4_costOf : ByteArray := prog_1_method_41_code
def yX4_costOf : MethodName := ⟨RX4, "costOf", "(LCodeQuiz$Pupil;I)I"⟩
abbrev cX4_findSets : ByteArray := prog_1_method_42_code
def yX4_findSets : MethodName := ⟨RX4, "findSets", "(LCodeQuiz$Pupil;)J"⟩
abbrev cX4_listSetAnswers : ByteArray := prog_1_method_43_code
def yX4_listSetAnswers : MethodName := ⟨RX4, "listSetAnswers", "(LCodeQuiz$Question;J)I"⟩
abbrev cX4_mostAlike : ByteArray := prog_1_method_44_code
def yX4_mostAlike : MethodName := ⟨RX4, "mostAlike", "(I)I"⟩
abbrev cX4_pairsParted : ByteArray := prog_1_method_45_code
def yX4_pairsParted : MethodName := ⟨RX4, "pairsParted", "(LCodeQuiz$Question;)I"⟩
abbrev cX4_partsAll : ByteArray := prog_1_method_46_code
def yX4_partsAll : MethodName := ⟨RX4, "partsAll", "(I)Z"⟩
abbrev cX4_hasBit : ByteArray := prog_1_method_47_code
def yX4_hasBit : MethodName := ⟨RX4, "hasBit", "(JI)Z"⟩
abbrev cX4_bitAt : ByteArray := prog_1_method_48_code
def yX4_bitAt : MethodName := ⟨RX4, "bitAt", "(JI)I"⟩
def RX5 : String := "CodeQuizModel"
def TX5 : u_T := fun k => match k with
  | 0 => ("CodeQuizModel", "op", "[I", true)
  | 1 => ("CodeQuizModel", "x", "[I", true)
  | 2 => ("CodeQuizModel", "y", "[I", true)
  | 3 => ("CodeQuizModel", "many", "[I", true)
  | 4 => ("CodeQuizModel", "programs", "I", false)
  | 5 => ("CodeQuizModel", "variable", "[I", true)
  | 6 => ("CodeQuizModel", "cells", "[I", true)
  | 7 => ("CodeQuizModel", "rowOf", "[I", true)
  | 8 => ("CodeQuizModel", "left", "[J", true)
  | 9 => ("CodeQuizModel", "times", "[I", true)
  | 10 => ("CodeQuizModel", "steps", "I", false)
  | 11 => ("CodeQuizModel", "isSpent", "Z", false)
  | 12 => ("CodeQuizModel", "told", "[I", true)
  | 13 => ("CodeQuizModel", "toldTimes", "[I", true)
  | 14 => ("CodeQuizModel", "toldLines", "I", false)
  | 15 => ("CodeQuizModel", "ofProgram", "[I", true)
  | 16 => ("CodeQuizModel", "input", "[I", true)
  | 17 => ("CodeQuizModel", "kind", "[I", true)
  | 18 => ("CodeQuizModel", "about", "[I", true)
  | 19 => ("CodeQuizModel", "questions", "I", false)
  | 20 => ("CodeQuizModel", "choiceValue", "[I", true)
  | 21 => ("CodeQuizModel", "choiceSlip", "[I", true)
  | 22 => ("CodeQuizModel", "choiceMany", "I", false)
  | 23 => ("CodeQuizModel", "filling", "[I", true)
  | 24 => ("CodeQuizModel", "fillingMany", "I", false)
  | 25 => ("CodeQuizModel", "kept", "[I", true)
  | 26 => ("CodeQuizModel", "hasGiven", "[Z", true)
  | 27 => ("CodeQuizModel", "given", "[I", true)
  | 28 => ("CodeQuizModel", "price", "[I", true)
  | 29 => ("CodeQuizModel", "sets", "[I", true)
  | 30 => ("CodeQuizModel", "setMany", "I", false)
  | 31 => ("CodeQuizModel", "answers", "[I", true)
  | _ => ("CodeQuizModel", "table", "[I", true)
def tyX5 : Nat → FieldType := fun k => match k with
  | 0 => .array .int
  | 1 => .array .int
  | 2 => .array .int
  | 3 => .array .int
  | 4 => .int
  | 5 => .array .int
  | 6 => .array .int
  | 7 => .array .int
  | 8 => .array .long
  | 9 => .array .int
  | 10 => .int
  | 11 => .boolean
  | 12 => .array .int
  | 13 => .array .int
  | 14 => .int
  | 15 => .array .int
  | 16 => .array .int
  | 17 => .array .int
  | 18 => .array .int
  | 19 => .int
  | 20 => .array .int
  | 21 => .array .int
  | 22 => .int
  | 23 => .array .int
  | 24 => .int
  | 25 => .array .int
  | 26 => .array .boolean
  | 27 => .array .int
  | 28 => .array .int
  | 29 => .array .int
  | 30 => .int
  | 31 => .array .int
  | _ => .array .int
abbrev wsX50 : List Cond := u_ws RX5 TX5 33
theorem nmX5 : ∀ a, a < 33 → ∀ b, b < 33 → a ≠ b → (TX5 a).2.1 ≠ (TX5 b).2.1 := by decide +kernel
theorem tyX5_ok : ∀ k, k < 33 → parseFieldDescriptor (TX5 k).2.2.1 = some (tyX5 k) := by decide +kernel
abbrev cX5_init : ByteArray := prog_7_method_1_code
def yX5_init : MethodName := ⟨RX5, "<init>", "()V"⟩
abbrev cX5_within : ByteArray := prog_7_method_2_code
def yX5_within : MethodName := ⟨RX5, "within", "(III)Z"⟩
abbrev cX5_isProgram : ByteArray := prog_7_method_3_code
def yX5_isProgram : MethodName := ⟨RX5, "isProgram", "(I)Z"⟩
abbrev cX5_isQuestion : ByteArray := prog_7_method_4_code
def yX5_isQuestion : MethodName := ⟨RX5, "isQuestion", "(I)Z"⟩
abbrev cX5_program : ByteArray := prog_7_method_5_code
def yX5_program : MethodName := ⟨RX5, "program", "()I"⟩
abbrev cX5_mayBe : ByteArray := prog_7_method_6_code
def yX5_mayBe : MethodName := ⟨RX5, "mayBe", "(III)Z"⟩
abbrev cX5_openAhead : ByteArray := prog_7_method_7_code
def yX5_openAhead : MethodName := ⟨RX5, "openAhead", "(II)I"⟩
abbrev cX5_line : ByteArray := prog_7_method_8_code
def yX5_line : MethodName := ⟨RX5, "line", "(IIII)I"⟩
abbrev cX5_about : ByteArray := prog_7_method_9_code
def yX5_about : MethodName := ⟨RX5, "about", "(III)I"⟩
abbrev cX5_isWhole : ByteArray := prog_7_method_10_code
def yX5_isWhole : MethodName := ⟨RX5, "isWhole", "(I)Z"⟩
abbrev cX5_whole : ByteArray := prog_7_method_11_code
def yX5_whole : MethodName := ⟨RX5, "whole", "(I)I"⟩
abbrev cX5_endOf : ByteArray := prog_7_method_12_code
def yX5_endOf : MethodName := ⟨RX5, "endOf", "(II)I"⟩
abbrev cX5_beginOf : ByteArray := prog_7_method_13_code
def yX5_beginOf : MethodName := ⟨RX5, "beginOf", "(II)I"⟩
abbrev cX5_has : ByteArray := prog_7_method_14_code
def yX5_has : MethodName := ⟨RX5, "has", "(II)Z"⟩
abbrev cX5_runLines : ByteArray := prog_7_method_15_code
def yX5_runLines : MethodName := ⟨RX5, "runLines", "(IIIII)V"⟩
abbrev cX5_doLine : ByteArray := prog_7_method_16_code
def yX5_doLine : MethodName := ⟨RX5, "doLine", "(IIII)I"⟩
abbrev cX5_ended : ByteArray := prog_7_method_17_code
def yX5_ended : MethodName := ⟨RX5, "ended", "(II)I"⟩
abbrev cX5_rows : ByteArray := prog_7_method_18_code
def yX5_rows : MethodName := ⟨RX5, "rows", "(IIII)V"⟩
abbrev cX5_end : ByteArray := prog_7_method_19_code
def yX5_end : MethodName := ⟨RX5, "end", "(I)I"⟩
abbrev cX5_run : ByteArray := prog_7_method_20_code
def yX5_run : MethodName := ⟨RX5, "run", "(III)I"⟩
abbrev cX5_told : ByteArray := prog_7_method_21_code
def yX5_told : MethodName := ⟨RX5, "told", "(I)I"⟩
abbrev cX5_done : ByteArray := prog_7_method_22_code
def yX5_done : MethodName := ⟨RX5, "done", "(I)I"⟩
abbrev cX5_question : ByteArray := prog_7_method_23_code
def yX5_question : MethodName := ⟨RX5, "question", "(IIII)I"⟩
abbrev cX5_answerOf : ByteArray := prog_7_method_24_code
def yX5_answerOf : MethodName := ⟨RX5, "answerOf", "(II)I"⟩
abbrev cX5_answer : ByteArray := prog_7_method_25_code
def yX5_answer : MethodName := ⟨RX5, "answer", "(II)I"⟩
abbrev cX5_choices : ByteArray := prog_7_method_26_code
def yX5_choices : MethodName := ⟨RX5, "choices", "(II)I"⟩
abbrev cX5_choice : ByteArray := prog_7_method_27_code
def yX5_choice : MethodName := ⟨RX5, "choice", "(II)I"⟩
abbrev cX5_gap : ByteArray := prog_7_method_28_code
def yX5_gap : MethodName := ⟨RX5, "gap", "(II)I"⟩
abbrev cX5_filling : ByteArray := prog_7_method_29_code
def yX5_filling : MethodName := ⟨RX5, "filling", "(I)I"⟩
abbrev cX5_why : ByteArray := prog_7_method_30_code
def yX5_why : MethodName := ⟨RX5, "why", "(II)I"⟩
abbrev cX5_same : ByteArray := prog_7_method_31_code
def yX5_same : MethodName := ⟨RX5, "same", "(II)I"⟩
abbrev cX5_isPupil : ByteArray := prog_7_method_32_code
def yX5_isPupil : MethodName := ⟨RX5, "isPupil", "(I)Z"⟩
abbrev cX5_give : ByteArray := prog_7_method_33_code
def yX5_give : MethodName := ⟨RX5, "give", "(III)I"⟩
abbrev cX5_price : ByteArray := prog_7_method_34_code
def yX5_price : MethodName := ⟨RX5, "price", "(II)I"⟩
abbrev cX5_bits : ByteArray := prog_7_method_35_code
def yX5_bits : MethodName := ⟨RX5, "bits", "(I)I"⟩
abbrev cX5_costOf : ByteArray := prog_7_method_36_code
def yX5_costOf : MethodName := ⟨RX5, "costOf", "(II)I"⟩
abbrev cX5_cost : ByteArray := prog_7_method_37_code
def yX5_cost : MethodName := ⟨RX5, "cost", "(II)I"⟩
abbrev cX5_findSets : ByteArray := prog_7_method_38_code
def yX5_findSets : MethodName := ⟨RX5, "findSets", "(I)V"⟩
abbrev cX5_sets : ByteArray := prog_7_method_39_code
def yX5_sets : MethodName := ⟨RX5, "sets", "(I)I"⟩
abbrev cX5_set : ByteArray := prog_7_method_40_code
def yX5_set : MethodName := ⟨RX5, "set", "(II)I"⟩
abbrev cX5_greatest : ByteArray := prog_7_method_41_code
def yX5_greatest : MethodName := ⟨RX5, "greatest", "(I)I"⟩
abbrev cX5_next : ByteArray := prog_7_method_42_code
def yX5_next : MethodName := ⟨RX5, "next", "(I)I"⟩
abbrev cX5_tellApart : ByteArray := prog_7_method_43_code
def yX5_tellApart : MethodName := ⟨RX5, "tellApart", "(IIII)Z"⟩
abbrev cX5_parting : ByteArray := prog_7_method_44_code
def yX5_parting : MethodName := ⟨RX5, "parting", "()I"⟩
abbrev cX5_count : ByteArray := prog_7_method_45_code
def yX5_count : MethodName := ⟨RX5, "count", "(I)I"⟩
def RJ6 : String := "java/lang/Integer"
def TJ6 : u_T := fun k => match k with
  | _ => ("", "", "", false)
def tyJ6 : Nat → FieldType := fun k => match k with
  | _ => .int
abbrev wsJ60 : List Cond := u_ws RJ6 TJ6 0
theorem nmJ6 : ∀ a, a < 0 → ∀ b, b < 0 → a ≠ b → (TJ6 a).2.1 ≠ (TJ6 b).2.1 := by decide +kernel
theorem tyJ6_ok : ∀ k, k < 0 → parseFieldDescriptor (TJ6 k).2.2.1 = some (tyJ6 k) := by decide +kernel
abbrev cJ6_bitCount_0f7a4 : ByteArray := prog_8_method_49_code
def yJ6_bitCount_0f7a4 : MethodName := ⟨RJ6, "bitCount", "(I)I"⟩
def RJ13 : String := "java/lang/Long"
def TJ13 : u_T := fun k => match k with
  | _ => ("", "", "", false)
def tyJ13 : Nat → FieldType := fun k => match k with
  | _ => .int
abbrev wsJ130 : List Cond := u_ws RJ13 TJ13 0
theorem nmJ13 : ∀ a, a < 0 → ∀ b, b < 0 → a ≠ b → (TJ13 a).2.1 ≠ (TJ13 b).2.1 := by decide +kernel
theorem tyJ13_ok : ∀ k, k < 0 → parseFieldDescriptor (TJ13 k).2.2.1 = some (tyJ13 k) := by decide +kernel
abbrev cJ13_bitCount_95d88 : ByteArray := prog_9_method_50_code
def yJ13_bitCount_95d88 : MethodName := ⟨RJ13, "bitCount", "(J)I"⟩
def RJ9 : String := "java/lang/Math"
def TJ9 : u_T := fun k => match k with
  | _ => ("", "", "", false)
def tyJ9 : Nat → FieldType := fun k => match k with
  | _ => .int
abbrev wsJ90 : List Cond := u_ws RJ9 TJ9 0
theorem nmJ9 : ∀ a, a < 0 → ∀ b, b < 0 → a ≠ b → (TJ9 a).2.1 ≠ (TJ9 b).2.1 := by decide +kernel
theorem tyJ9_ok : ∀ k, k < 0 → parseFieldDescriptor (TJ9 k).2.2.1 = some (tyJ9 k) := by decide +kernel
abbrev cJ9_max_7cf53 : ByteArray := prog_10_method_65_code
def yJ9_max_7cf53 : MethodName := ⟨RJ9, "max", "(II)I"⟩
abbrev cJ9_min_7cf53 : ByteArray := prog_10_method_69_code
def yJ9_min_7cf53 : MethodName := ⟨RJ9, "min", "(II)I"⟩
def RJ7 : String := "java/util/Arrays"
def TJ7 : u_T := fun k => match k with
  | _ => ("", "", "", false)
def tyJ7 : Nat → FieldType := fun k => match k with
  | _ => .int
abbrev wsJ70 : List Cond := u_ws RJ7 TJ7 0
theorem nmJ7 : ∀ a, a < 0 → ∀ b, b < 0 → a ≠ b → (TJ7 a).2.1 ≠ (TJ7 b).2.1 := by decide +kernel
theorem tyJ7_ok : ∀ k, k < 0 → parseFieldDescriptor (TJ7 k).2.2.1 = some (tyJ7 k) := by decide +kernel
abbrev cJ7_fill_53178 : ByteArray := prog_11_method_103_code
def yJ7_fill_53178 : MethodName := ⟨RJ7, "fill", "([II)V"⟩
def RL : String := "CodeQuizLaw"
abbrev cL_law : ByteArray := code
def yL_law : MethodName := ⟨RL, "law", "([I)Z"⟩
abbrev vwCl : List vw_C := [(RX0, TX0, 9), (RX1, TX1, 9), (RX2, TX2, 2), (RX3, TX3, 6), (RX4, TX4, 18), (RX5, TX5, 33)]
end
section
theorem dX0_init_0 : decode cX0_init 0 = .ok (.aload_n 0, 1) := by decide +kernel
theorem dX0_init_1 : decode cX0_init 1 = .ok (.invokespecial 3, 3) := by decide +kernel
theorem dX0_init_4 : decode cX0_init 4 = .ok (.aload_n 0, 1) := by decide +kernel
theorem dX0_init_5 : decode cX0_init 5 = .ok (.iconst 4, 1) := by decide +kernel
theorem dX0_init_6 : decode cX0_init 6 = .ok (.newarray .int, 2) := by decide +kernel
theorem dX0_init_8 : decode cX0_init 8 = .ok (.putfield 9, 3) := by decide +kernel
theorem dX0_init_11 : decode cX0_init 11 = .ok (.aload_n 0, 1) := by decide +kernel
theorem dX0_init_12 : decode cX0_init 12 = .ok (.bipush 8, 2) := by decide +kernel
theorem dX0_init_14 : decode cX0_init 14 = .ok (.newarray .int, 2) := by decide +kernel
theorem dX0_init_16 : decode cX0_init 16 = .ok (.putfield 15, 3) := by decide +kernel
theorem dX0_init_19 : decode cX0_init 19 = .ok (.aload_n 0, 1) := by decide +kernel
theorem dX0_init_20 : decode cX0_init 20 = .ok (.iconst 2, 1) := by decide +kernel
theorem dX0_init_21 : decode cX0_init 21 = .ok (.newarray .int, 2) := by decide +kernel
theorem dX0_init_23 : decode cX0_init 23 = .ok (.putfield 18, 3) := by decide +kernel
theorem dX0_init_26 : decode cX0_init 26 = .ok (.aload_n 0, 1) := by decide +kernel
theorem dX0_init_27 : decode cX0_init 27 = .ok (.bipush 20, 2) := by decide +kernel
theorem dX0_init_29 : decode cX0_init 29 = .ok (.newarray .int, 2) := by decide +kernel
theorem dX0_init_31 : decode cX0_init 31 = .ok (.putfield 21, 3) := by decide +kernel
theorem dX0_init_34 : decode cX0_init 34 = .ok (.aload_n 0, 1) := by decide +kernel
theorem dX0_init_35 : decode cX0_init 35 = .ok (.bipush 20, 2) := by decide +kernel
theorem dX0_init_37 : decode cX0_init 37 = .ok (.newarray .long, 2) := by decide +kernel
theorem dX0_init_39 : decode cX0_init 39 = .ok (.putfield 24, 3) := by decide +kernel
theorem dX0_init_42 : decode cX0_init 42 = .ok (.return_, 1) := by decide +kernel
theorem dX0_perform_0 : decode cX0_perform 0 = .ok (.aload_n 0, 1) := by decide +kernel
theorem dX0_perform_1 : decode cX0_perform 1 = .ok (.iload_n 2, 1) := by decide +kernel
theorem dX0_perform_2 : decode cX0_perform 2 = .ok (.invokevirtual 28, 3) := by decide +kernel
theorem dX0_perform_5 : decode cX0_perform 5 = .ok (.aload_n 0, 1) := by decide +kernel
theorem dX0_perform_6 : decode cX0_perform 6 = .ok (.iload_n 3, 1) := by decide +kernel
theorem dX0_perform_7 : decode cX0_perform 7 = .ok (.putfield 32, 3) := by decide +kernel
theorem dX0_perform_10 : decode cX0_perform 10 = .ok (.aload_n 0, 1) := by decide +kernel
theorem dX0_perform_11 : decode cX0_perform 11 = .ok (.aload_n 1, 1) := by decide +kernel
theorem dX0_perform_12 : decode cX0_perform 12 = .ok (.getfield 36, 3) := by decide +kernel
theorem dX0_perform_15 : decode cX0_perform 15 = .ok (.putfield 41, 3) := by decide +kernel
theorem dX0_perform_18 : decode cX0_perform 18 = .ok (.iconst 0, 1) := by decide +kernel
theorem dX0_perform_19 : decode cX0_perform 19 = .ok (.istore 4, 2) := by decide +kernel
theorem dX0_perform_21 : decode cX0_perform 21 = .ok (.aload_n 0, 1) := by decide +kernel
theorem dX0_perform_22 : decode cX0_perform 22 = .ok (.iconst 0, 1) := by decide +kernel
theorem dX0_perform_23 : decode cX0_perform 23 = .ok (.putfield 44, 3) := by decide +kernel
theorem dX0_perform_26 : decode cX0_perform 26 = .ok (.aload_n 0, 1) := by decide +kernel
theorem dX0_perform_27 : decode cX0_perform 27 = .ok (.getfield 44, 3) := by decide +kernel
theorem dX0_perform_30 : decode cX0_perform 30 = .ok (.sipush 300, 3) := by decide +kernel
theorem dX0_perform_33 : decode cX0_perform 33 = .ok (.if_icmp .ge 45, 3) := by decide +kernel
theorem dX0_perform_36 : decode cX0_perform 36 = .ok (.iload 4, 2) := by decide +kernel
theorem dX0_perform_38 : decode cX0_perform 38 = .ok (.aload_n 0, 1) := by decide +kernel
theorem dX0_perform_39 : decode cX0_perform 39 = .ok (.getfield 41, 3) := by decide +kernel
theorem dX0_perform_42 : decode cX0_perform 42 = .ok (.if_icmp .ge 36, 3) := by decide +kernel
theorem dX0_perform_45 : decode cX0_perform 45 = .ok (.aload_n 0, 1) := by decide +kernel
theorem dX0_perform_46 : decode cX0_perform 46 = .ok (.getfield 21, 3) := by decide +kernel
theorem dX0_perform_49 : decode cX0_perform 49 = .ok (.iload 4, 2) := by decide +kernel
theorem dX0_perform_51 : decode cX0_perform 51 = .ok (.dup2, 1) := by decide +kernel
theorem dX0_perform_52 : decode cX0_perform 52 = .ok (.iaload, 1) := by decide +kernel
theorem dX0_perform_53 : decode cX0_perform 53 = .ok (.iconst 1, 1) := by decide +kernel
theorem dX0_perform_54 : decode cX0_perform 54 = .ok (.iadd, 1) := by decide +kernel
theorem dX0_perform_55 : decode cX0_perform 55 = .ok (.iastore, 1) := by decide +kernel
theorem dX0_perform_56 : decode cX0_perform 56 = .ok (.aload_n 0, 1) := by decide +kernel
theorem dX0_perform_57 : decode cX0_perform 57 = .ok (.aload_n 1, 1) := by decide +kernel
theorem dX0_perform_58 : decode cX0_perform 58 = .ok (.iload 4, 2) := by decide +kernel
theorem dX0_perform_60 : decode cX0_perform 60 = .ok (.invokevirtual 47, 3) := by decide +kernel
theorem dX0_perform_63 : decode cX0_perform 63 = .ok (.istore 4, 2) := by decide +kernel
theorem dX0_perform_65 : decode cX0_perform 65 = .ok (.aload_n 0, 1) := by decide +kernel
theorem dX0_perform_66 : decode cX0_perform 66 = .ok (.dup, 1) := by decide +kernel
theorem dX0_perform_67 : decode cX0_perform 67 = .ok (.getfield 44, 3) := by decide +kernel
theorem dX0_perform_70 : decode cX0_perform 70 = .ok (.iconst 1, 1) := by decide +kernel
theorem dX0_perform_71 : decode cX0_perform 71 = .ok (.iadd, 1) := by decide +kernel
theorem dX0_perform_72 : decode cX0_perform 72 = .ok (.putfield 44, 3) := by decide +kernel
theorem dX0_perform_75 : decode cX0_perform 75 = .ok (.goto (-49), 3) := by decide +kernel
theorem dX0_perform_78 : decode cX0_perform 78 = .ok (.aload_n 0, 1) := by decide +kernel
theorem dX0_perform_79 : decode cX0_perform 79 = .ok (.iload 4, 2) := by decide +kernel
theorem dX0_perform_81 : decode cX0_perform 81 = .ok (.aload_n 0, 1) := by decide +kernel
theorem dX0_perform_82 : decode cX0_perform 82 = .ok (.getfield 41, 3) := by decide +kernel
theorem dX0_perform_85 : decode cX0_perform 85 = .ok (.if_icmp .ge 7, 3) := by decide +kernel
theorem dX0_perform_88 : decode cX0_perform 88 = .ok (.iconst 1, 1) := by decide +kernel
theorem dX0_perform_89 : decode cX0_perform 89 = .ok (.goto 4, 3) := by decide +kernel
theorem dX0_perform_92 : decode cX0_perform 92 = .ok (.iconst 0, 1) := by decide +kernel
theorem dX0_perform_93 : decode cX0_perform 93 = .ok (.putfield 51, 3) := by decide +kernel
theorem dX0_perform_96 : decode cX0_perform 96 = .ok (.return_, 1) := by decide +kernel
theorem dX0_begin_0 : decode cX0_begin 0 = .ok (.aload_n 0, 1) := by decide +kernel
theorem dX0_begin_1 : decode cX0_begin 1 = .ok (.getfield 9, 3) := by decide +kernel
theorem dX0_begin_4 : decode cX0_begin 4 = .ok (.iconst 0, 1) := by decide +kernel
theorem dX0_begin_5 : decode cX0_begin 5 = .ok (.invokestatic 55, 3) := by decide +kernel
theorem dX0_begin_8 : decode cX0_begin 8 = .ok (.aload_n 0, 1) := by decide +kernel
theorem dX0_begin_9 : decode cX0_begin 9 = .ok (.getfield 9, 3) := by decide +kernel
theorem dX0_begin_12 : decode cX0_begin 12 = .ok (.iconst 0, 1) := by decide +kernel
theorem dX0_begin_13 : decode cX0_begin 13 = .ok (.iload_n 1, 1) := by decide +kernel
theorem dX0_begin_14 : decode cX0_begin 14 = .ok (.iastore, 1) := by decide +kernel
theorem dX0_begin_15 : decode cX0_begin 15 = .ok (.aload_n 0, 1) := by decide +kernel
theorem dX0_begin_16 : decode cX0_begin 16 = .ok (.getfield 15, 3) := by decide +kernel
theorem dX0_begin_19 : decode cX0_begin 19 = .ok (.iconst 0, 1) := by decide +kernel
theorem dX0_begin_20 : decode cX0_begin 20 = .ok (.invokestatic 55, 3) := by decide +kernel
theorem dX0_begin_23 : decode cX0_begin 23 = .ok (.aload_n 0, 1) := by decide +kernel
theorem dX0_begin_24 : decode cX0_begin 24 = .ok (.getfield 18, 3) := by decide +kernel
theorem dX0_begin_27 : decode cX0_begin 27 = .ok (.iconst 0, 1) := by decide +kernel
theorem dX0_begin_28 : decode cX0_begin 28 = .ok (.iconst 0, 1) := by decide +kernel
theorem dX0_begin_29 : decode cX0_begin 29 = .ok (.iastore, 1) := by decide +kernel
theorem dX0_begin_30 : decode cX0_begin 30 = .ok (.aload_n 0, 1) := by decide +kernel
theorem dX0_begin_31 : decode cX0_begin 31 = .ok (.getfield 18, 3) := by decide +kernel
theorem dX0_begin_34 : decode cX0_begin 34 = .ok (.iconst 1, 1) := by decide +kernel
theorem dX0_begin_35 : decode cX0_begin 35 = .ok (.iconst 4, 1) := by decide +kernel
theorem dX0_begin_36 : decode cX0_begin 36 = .ok (.iastore, 1) := by decide +kernel
theorem dX0_begin_37 : decode cX0_begin 37 = .ok (.aload_n 0, 1) := by decide +kernel
theorem dX0_begin_38 : decode cX0_begin 38 = .ok (.getfield 21, 3) := by decide +kernel
theorem dX0_begin_41 : decode cX0_begin 41 = .ok (.iconst 0, 1) := by decide +kernel
theorem dX0_begin_42 : decode cX0_begin 42 = .ok (.invokestatic 55, 3) := by decide +kernel
theorem dX0_begin_45 : decode cX0_begin 45 = .ok (.return_, 1) := by decide +kernel
theorem dX0_has_0 : decode cX0_has 0 = .ok (.aload_n 0, 1) := by decide +kernel
theorem dX0_has_1 : decode cX0_has 1 = .ok (.getfield 32, 3) := by decide +kernel
theorem dX0_has_4 : decode cX0_has 4 = .ok (.iload_n 1, 1) := by decide +kernel
theorem dX0_has_5 : decode cX0_has 5 = .ok (.iand, 1) := by decide +kernel
theorem dX0_has_6 : decode cX0_has 6 = .ok (.ifCond .eq 7, 3) := by decide +kernel
theorem dX0_has_9 : decode cX0_has 9 = .ok (.iconst 1, 1) := by decide +kernel
theorem dX0_has_10 : decode cX0_has 10 = .ok (.goto 4, 3) := by decide +kernel
theorem dX0_has_13 : decode cX0_has 13 = .ok (.iconst 0, 1) := by decide +kernel
theorem dX0_has_14 : decode cX0_has 14 = .ok (.ireturn, 1) := by decide +kernel
theorem dX0_doLine_0 : decode cX0_doLine 0 = .ok (.aload_n 1, 1) := by decide +kernel
theorem dX0_doLine_1 : decode cX0_doLine 1 = .ok (.getfield 61, 3) := by decide +kernel
theorem dX0_doLine_4 : decode cX0_doLine 4 = .ok (.iload_n 2, 1) := by decide +kernel
theorem dX0_doLine_5 : decode cX0_doLine 5 = .ok (.iaload, 1) := by decide +kernel
theorem dX0_doLine_6 : decode cX0_doLine 6 = .ok (.istore_n 3, 1) := by decide +kernel
theorem dX0_doLine_7 : decode cX0_doLine 7 = .ok (.aload_n 1, 1) := by decide +kernel
theorem dX0_doLine_8 : decode cX0_doLine 8 = .ok (.getfield 64, 3) := by decide +kernel
theorem dX0_doLine_11 : decode cX0_doLine 11 = .ok (.iload_n 2, 1) := by decide +kernel
theorem dX0_doLine_12 : decode cX0_doLine 12 = .ok (.iaload, 1) := by decide +kernel
theorem dX0_doLine_13 : decode cX0_doLine 13 = .ok (.istore 4, 2) := by decide +kernel
theorem dX0_doLine_15 : decode cX0_doLine 15 = .ok (.aload_n 1, 1) := by decide +kernel
theorem dX0_doLine_16 : decode cX0_doLine 16 = .ok (.getfield 67, 3) := by decide +kernel
theorem dX0_doLine_19 : decode cX0_doLine 19 = .ok (.iload_n 2, 1) := by decide +kernel
theorem dX0_doLine_20 : decode cX0_doLine 20 = .ok (.iaload, 1) := by decide +kernel
theorem dX0_doLine_21 : decode cX0_doLine 21 = .ok (.tableswitch 309 0 8 #[51, 62, 102, 121, 170, 199, 230, 254, 275], 51) := by decide +kernel
theorem dX0_doLine_72 : decode cX0_doLine 72 = .ok (.aload_n 0, 1) := by decide +kernel
theorem dX0_doLine_73 : decode cX0_doLine 73 = .ok (.getfield 9, 3) := by decide +kernel
theorem dX0_doLine_76 : decode cX0_doLine 76 = .ok (.iload_n 3, 1) := by decide +kernel
theorem dX0_doLine_77 : decode cX0_doLine 77 = .ok (.iload 4, 2) := by decide +kernel
theorem dX0_doLine_79 : decode cX0_doLine 79 = .ok (.iastore, 1) := by decide +kernel
theorem dX0_doLine_80 : decode cX0_doLine 80 = .ok (.goto 262, 3) := by decide +kernel
theorem dX0_doLine_83 : decode cX0_doLine 83 = .ok (.aload_n 0, 1) := by decide +kernel
theorem dX0_doLine_84 : decode cX0_doLine 84 = .ok (.iconst 4, 1) := by decide +kernel
theorem dX0_doLine_85 : decode cX0_doLine 85 = .ok (.invokevirtual 70, 3) := by decide +kernel
theorem dX0_doLine_88 : decode cX0_doLine 88 = .ok (.ifCond .eq 19, 3) := by decide +kernel
theorem dX0_doLine_91 : decode cX0_doLine 91 = .ok (.aload_n 0, 1) := by decide +kernel
theorem dX0_doLine_92 : decode cX0_doLine 92 = .ok (.getfield 9, 3) := by decide +kernel
theorem dX0_doLine_95 : decode cX0_doLine 95 = .ok (.iload 4, 2) := by decide +kernel
theorem dX0_doLine_97 : decode cX0_doLine 97 = .ok (.aload_n 0, 1) := by decide +kernel
theorem dX0_doLine_98 : decode cX0_doLine 98 = .ok (.getfield 9, 3) := by decide +kernel
theorem dX0_doLine_101 : decode cX0_doLine 101 = .ok (.iload_n 3, 1) := by decide +kernel
theorem dX0_doLine_102 : decode cX0_doLine 102 = .ok (.iaload, 1) := by decide +kernel
theorem dX0_doLine_103 : decode cX0_doLine 103 = .ok (.iastore, 1) := by decide +kernel
theorem dX0_doLine_104 : decode cX0_doLine 104 = .ok (.goto 238, 3) := by decide +kernel
theorem dX0_doLine_107 : decode cX0_doLine 107 = .ok (.aload_n 0, 1) := by decide +kernel
theorem dX0_doLine_108 : decode cX0_doLine 108 = .ok (.getfield 9, 3) := by decide +kernel
theorem dX0_doLine_111 : decode cX0_doLine 111 = .ok (.iload_n 3, 1) := by decide +kernel
theorem dX0_doLine_112 : decode cX0_doLine 112 = .ok (.aload_n 0, 1) := by decide +kernel
theorem dX0_doLine_113 : decode cX0_doLine 113 = .ok (.getfield 9, 3) := by decide +kernel
theorem dX0_doLine_116 : decode cX0_doLine 116 = .ok (.iload 4, 2) := by decide +kernel
theorem dX0_doLine_118 : decode cX0_doLine 118 = .ok (.iaload, 1) := by decide +kernel
theorem dX0_doLine_119 : decode cX0_doLine 119 = .ok (.iastore, 1) := by decide +kernel
theorem dX0_doLine_120 : decode cX0_doLine 120 = .ok (.goto 222, 3) := by decide +kernel
theorem dX0_doLine_123 : decode cX0_doLine 123 = .ok (.aload_n 0, 1) := by decide +kernel
theorem dX0_doLine_124 : decode cX0_doLine 124 = .ok (.getfield 9, 3) := by decide +kernel
theorem dX0_doLine_127 : decode cX0_doLine 127 = .ok (.iload_n 3, 1) := by decide +kernel
theorem dX0_doLine_128 : decode cX0_doLine 128 = .ok (.dup2, 1) := by decide +kernel
theorem dX0_doLine_129 : decode cX0_doLine 129 = .ok (.iaload, 1) := by decide +kernel
theorem dX0_doLine_130 : decode cX0_doLine 130 = .ok (.aload_n 0, 1) := by decide +kernel
theorem dX0_doLine_131 : decode cX0_doLine 131 = .ok (.getfield 9, 3) := by decide +kernel
theorem dX0_doLine_134 : decode cX0_doLine 134 = .ok (.iload 4, 2) := by decide +kernel
theorem dX0_doLine_136 : decode cX0_doLine 136 = .ok (.iaload, 1) := by decide +kernel
theorem dX0_doLine_137 : decode cX0_doLine 137 = .ok (.iadd, 1) := by decide +kernel
theorem dX0_doLine_138 : decode cX0_doLine 138 = .ok (.iastore, 1) := by decide +kernel
theorem dX0_doLine_139 : decode cX0_doLine 139 = .ok (.goto 203, 3) := by decide +kernel
theorem dX0_doLine_142 : decode cX0_doLine 142 = .ok (.aload_n 0, 1) := by decide +kernel
theorem dX0_doLine_143 : decode cX0_doLine 143 = .ok (.getfield 9, 3) := by decide +kernel
theorem dX0_doLine_146 : decode cX0_doLine 146 = .ok (.iload_n 3, 1) := by decide +kernel
theorem dX0_doLine_147 : decode cX0_doLine 147 = .ok (.aload_n 0, 1) := by decide +kernel
theorem dX0_doLine_148 : decode cX0_doLine 148 = .ok (.bipush 16, 2) := by decide +kernel
theorem dX0_doLine_150 : decode cX0_doLine 150 = .ok (.invokevirtual 70, 3) := by decide +kernel
theorem dX0_doLine_153 : decode cX0_doLine 153 = .ok (.ifCond .eq 20, 3) := by decide +kernel
theorem dX0_doLine_156 : decode cX0_doLine 156 = .ok (.aload_n 0, 1) := by decide +kernel
theorem dX0_doLine_157 : decode cX0_doLine 157 = .ok (.getfield 9, 3) := by decide +kernel
theorem dX0_doLine_160 : decode cX0_doLine 160 = .ok (.iload 4, 2) := by decide +kernel
theorem dX0_doLine_162 : decode cX0_doLine 162 = .ok (.iaload, 1) := by decide +kernel
theorem dX0_doLine_163 : decode cX0_doLine 163 = .ok (.aload_n 0, 1) := by decide +kernel
theorem dX0_doLine_164 : decode cX0_doLine 164 = .ok (.getfield 9, 3) := by decide +kernel
theorem dX0_doLine_167 : decode cX0_doLine 167 = .ok (.iload_n 3, 1) := by decide +kernel
theorem dX0_doLine_168 : decode cX0_doLine 168 = .ok (.iaload, 1) := by decide +kernel
theorem dX0_doLine_169 : decode cX0_doLine 169 = .ok (.isub, 1) := by decide +kernel
theorem dX0_doLine_170 : decode cX0_doLine 170 = .ok (.goto 17, 3) := by decide +kernel
theorem dX0_doLine_173 : decode cX0_doLine 173 = .ok (.aload_n 0, 1) := by decide +kernel
theorem dX0_doLine_174 : decode cX0_doLine 174 = .ok (.getfield 9, 3) := by decide +kernel
theorem dX0_doLine_177 : decode cX0_doLine 177 = .ok (.iload_n 3, 1) := by decide +kernel
theorem dX0_doLine_178 : decode cX0_doLine 178 = .ok (.iaload, 1) := by decide +kernel
theorem dX0_doLine_179 : decode cX0_doLine 179 = .ok (.aload_n 0, 1) := by decide +kernel
theorem dX0_doLine_180 : decode cX0_doLine 180 = .ok (.getfield 9, 3) := by decide +kernel
theorem dX0_doLine_183 : decode cX0_doLine 183 = .ok (.iload 4, 2) := by decide +kernel
theorem dX0_doLine_185 : decode cX0_doLine 185 = .ok (.iaload, 1) := by decide +kernel
theorem dX0_doLine_186 : decode cX0_doLine 186 = .ok (.isub, 1) := by decide +kernel
theorem dX0_doLine_187 : decode cX0_doLine 187 = .ok (.iastore, 1) := by decide +kernel
theorem dX0_doLine_188 : decode cX0_doLine 188 = .ok (.goto 154, 3) := by decide +kernel
theorem dX0_doLine_191 : decode cX0_doLine 191 = .ok (.aload_n 0, 1) := by decide +kernel
theorem dX0_doLine_192 : decode cX0_doLine 192 = .ok (.iload_n 2, 1) := by decide +kernel
theorem dX0_doLine_193 : decode cX0_doLine 193 = .ok (.iload_n 3, 1) := by decide +kernel
theorem dX0_doLine_194 : decode cX0_doLine 194 = .ok (.aload_n 0, 1) := by decide +kernel
theorem dX0_doLine_195 : decode cX0_doLine 195 = .ok (.iconst 2, 1) := by decide +kernel
theorem dX0_doLine_196 : decode cX0_doLine 196 = .ok (.invokevirtual 70, 3) := by decide +kernel
theorem dX0_doLine_199 : decode cX0_doLine 199 = .ok (.invokevirtual 74, 3) := by decide +kernel
theorem dX0_doLine_202 : decode cX0_doLine 202 = .ok (.ifCond .eq 9, 3) := by decide +kernel
theorem dX0_doLine_205 : decode cX0_doLine 205 = .ok (.iload_n 2, 1) := by decide +kernel
theorem dX0_doLine_206 : decode cX0_doLine 206 = .ok (.iconst 1, 1) := by decide +kernel
theorem dX0_doLine_207 : decode cX0_doLine 207 = .ok (.iadd, 1) := by decide +kernel
theorem dX0_doLine_208 : decode cX0_doLine 208 = .ok (.goto 11, 3) := by decide +kernel
theorem dX0_doLine_211 : decode cX0_doLine 211 = .ok (.aload_n 1, 1) := by decide +kernel
theorem dX0_doLine_212 : decode cX0_doLine 212 = .ok (.getfield 78, 3) := by decide +kernel
theorem dX0_doLine_215 : decode cX0_doLine 215 = .ok (.iload_n 2, 1) := by decide +kernel
theorem dX0_doLine_216 : decode cX0_doLine 216 = .ok (.iaload, 1) := by decide +kernel
theorem dX0_doLine_217 : decode cX0_doLine 217 = .ok (.iconst 1, 1) := by decide +kernel
theorem dX0_doLine_218 : decode cX0_doLine 218 = .ok (.iadd, 1) := by decide +kernel
theorem dX0_doLine_219 : decode cX0_doLine 219 = .ok (.ireturn, 1) := by decide +kernel
theorem dX0_doLine_220 : decode cX0_doLine 220 = .ok (.aload_n 0, 1) := by decide +kernel
theorem dX0_doLine_221 : decode cX0_doLine 221 = .ok (.iload_n 3, 1) := by decide +kernel
theorem dX0_doLine_222 : decode cX0_doLine 222 = .ok (.iload 4, 2) := by decide +kernel
theorem dX0_doLine_224 : decode cX0_doLine 224 = .ok (.aload_n 0, 1) := by decide +kernel
theorem dX0_doLine_225 : decode cX0_doLine 225 = .ok (.bipush 8, 2) := by decide +kernel
theorem dX0_doLine_227 : decode cX0_doLine 227 = .ok (.invokevirtual 70, 3) := by decide +kernel
theorem dX0_doLine_230 : decode cX0_doLine 230 = .ok (.invokevirtual 81, 3) := by decide +kernel
theorem dX0_doLine_233 : decode cX0_doLine 233 = .ok (.ifCond .eq 9, 3) := by decide +kernel
theorem dX0_doLine_236 : decode cX0_doLine 236 = .ok (.iload_n 2, 1) := by decide +kernel
theorem dX0_doLine_237 : decode cX0_doLine 237 = .ok (.iconst 1, 1) := by decide +kernel
theorem dX0_doLine_238 : decode cX0_doLine 238 = .ok (.iadd, 1) := by decide +kernel
theorem dX0_doLine_239 : decode cX0_doLine 239 = .ok (.goto 11, 3) := by decide +kernel
theorem dX0_doLine_242 : decode cX0_doLine 242 = .ok (.aload_n 1, 1) := by decide +kernel
theorem dX0_doLine_243 : decode cX0_doLine 243 = .ok (.getfield 78, 3) := by decide +kernel
theorem dX0_doLine_246 : decode cX0_doLine 246 = .ok (.iload_n 2, 1) := by decide +kernel
theorem dX0_doLine_247 : decode cX0_doLine 247 = .ok (.iaload, 1) := by decide +kernel
theorem dX0_doLine_248 : decode cX0_doLine 248 = .ok (.iconst 1, 1) := by decide +kernel
theorem dX0_doLine_249 : decode cX0_doLine 249 = .ok (.iadd, 1) := by decide +kernel
theorem dX0_doLine_250 : decode cX0_doLine 250 = .ok (.ireturn, 1) := by decide +kernel
theorem dX0_doLine_251 : decode cX0_doLine 251 = .ok (.aload_n 0, 1) := by decide +kernel
theorem dX0_doLine_252 : decode cX0_doLine 252 = .ok (.aload_n 1, 1) := by decide +kernel
theorem dX0_doLine_253 : decode cX0_doLine 253 = .ok (.iload_n 2, 1) := by decide +kernel
theorem dX0_doLine_254 : decode cX0_doLine 254 = .ok (.invokevirtual 84, 3) := by decide +kernel
theorem dX0_doLine_257 : decode cX0_doLine 257 = .ok (.ifCond .eq 14, 3) := by decide +kernel
theorem dX0_doLine_260 : decode cX0_doLine 260 = .ok (.aload_n 1, 1) := by decide +kernel
theorem dX0_doLine_261 : decode cX0_doLine 261 = .ok (.getfield 78, 3) := by decide +kernel
theorem dX0_doLine_264 : decode cX0_doLine 264 = .ok (.iload_n 2, 1) := by decide +kernel
theorem dX0_doLine_265 : decode cX0_doLine 265 = .ok (.iaload, 1) := by decide +kernel
theorem dX0_doLine_266 : decode cX0_doLine 266 = .ok (.iconst 1, 1) := by decide +kernel
theorem dX0_doLine_267 : decode cX0_doLine 267 = .ok (.iadd, 1) := by decide +kernel
theorem dX0_doLine_268 : decode cX0_doLine 268 = .ok (.goto 6, 3) := by decide +kernel
theorem dX0_doLine_271 : decode cX0_doLine 271 = .ok (.iload_n 2, 1) := by decide +kernel
theorem dX0_doLine_272 : decode cX0_doLine 272 = .ok (.iconst 1, 1) := by decide +kernel
theorem dX0_doLine_273 : decode cX0_doLine 273 = .ok (.iadd, 1) := by decide +kernel
theorem dX0_doLine_274 : decode cX0_doLine 274 = .ok (.ireturn, 1) := by decide +kernel
theorem dX0_doLine_275 : decode cX0_doLine 275 = .ok (.aload_n 0, 1) := by decide +kernel
theorem dX0_doLine_276 : decode cX0_doLine 276 = .ok (.getfield 15, 3) := by decide +kernel
theorem dX0_doLine_279 : decode cX0_doLine 279 = .ok (.aload_n 0, 1) := by decide +kernel
theorem dX0_doLine_280 : decode cX0_doLine 280 = .ok (.iload_n 3, 1) := by decide +kernel
theorem dX0_doLine_281 : decode cX0_doLine 281 = .ok (.iconst 0, 1) := by decide +kernel
theorem dX0_doLine_282 : decode cX0_doLine 282 = .ok (.invokevirtual 88, 3) := by decide +kernel
theorem dX0_doLine_285 : decode cX0_doLine 285 = .ok (.aload_n 0, 1) := by decide +kernel
theorem dX0_doLine_286 : decode cX0_doLine 286 = .ok (.getfield 9, 3) := by decide +kernel
theorem dX0_doLine_289 : decode cX0_doLine 289 = .ok (.iload 4, 2) := by decide +kernel
theorem dX0_doLine_291 : decode cX0_doLine 291 = .ok (.iaload, 1) := by decide +kernel
theorem dX0_doLine_292 : decode cX0_doLine 292 = .ok (.iastore, 1) := by decide +kernel
theorem dX0_doLine_293 : decode cX0_doLine 293 = .ok (.goto 49, 3) := by decide +kernel
theorem dX0_doLine_296 : decode cX0_doLine 296 = .ok (.aload_n 0, 1) := by decide +kernel
theorem dX0_doLine_297 : decode cX0_doLine 297 = .ok (.getfield 9, 3) := by decide +kernel
theorem dX0_doLine_300 : decode cX0_doLine 300 = .ok (.iload_n 3, 1) := by decide +kernel
theorem dX0_doLine_301 : decode cX0_doLine 301 = .ok (.aload_n 0, 1) := by decide +kernel
theorem dX0_doLine_302 : decode cX0_doLine 302 = .ok (.getfield 15, 3) := by decide +kernel
theorem dX0_doLine_305 : decode cX0_doLine 305 = .ok (.aload_n 0, 1) := by decide +kernel
theorem dX0_doLine_306 : decode cX0_doLine 306 = .ok (.iload 4, 2) := by decide +kernel
theorem dX0_doLine_308 : decode cX0_doLine 308 = .ok (.aload_n 0, 1) := by decide +kernel
theorem dX0_doLine_309 : decode cX0_doLine 309 = .ok (.bipush 32, 2) := by decide +kernel
theorem dX0_doLine_311 : decode cX0_doLine 311 = .ok (.invokevirtual 70, 3) := by decide +kernel
theorem dX0_doLine_314 : decode cX0_doLine 314 = .ok (.ifCond .eq 7, 3) := by decide +kernel
theorem dX0_doLine_317 : decode cX0_doLine 317 = .ok (.iconst 1, 1) := by decide +kernel
theorem dX0_doLine_318 : decode cX0_doLine 318 = .ok (.goto 4, 3) := by decide +kernel
theorem dX0_doLine_321 : decode cX0_doLine 321 = .ok (.iconst 0, 1) := by decide +kernel
theorem dX0_doLine_322 : decode cX0_doLine 322 = .ok (.invokevirtual 88, 3) := by decide +kernel
theorem dX0_doLine_325 : decode cX0_doLine 325 = .ok (.iaload, 1) := by decide +kernel
theorem dX0_doLine_326 : decode cX0_doLine 326 = .ok (.iastore, 1) := by decide +kernel
theorem dX0_doLine_327 : decode cX0_doLine 327 = .ok (.goto 15, 3) := by decide +kernel
theorem dX0_doLine_330 : decode cX0_doLine 330 = .ok (.aload_n 0, 1) := by decide +kernel
theorem dX0_doLine_331 : decode cX0_doLine 331 = .ok (.iload_n 3, 1) := by decide +kernel
theorem dX0_doLine_332 : decode cX0_doLine 332 = .ok (.iload 4, 2) := by decide +kernel
theorem dX0_doLine_334 : decode cX0_doLine 334 = .ok (.aload_n 0, 1) := by decide +kernel
theorem dX0_doLine_335 : decode cX0_doLine 335 = .ok (.iconst 1, 1) := by decide +kernel
theorem dX0_doLine_336 : decode cX0_doLine 336 = .ok (.invokevirtual 70, 3) := by decide +kernel
theorem dX0_doLine_339 : decode cX0_doLine 339 = .ok (.invokevirtual 92, 3) := by decide +kernel
theorem dX0_doLine_342 : decode cX0_doLine 342 = .ok (.iload_n 2, 1) := by decide +kernel
theorem dX0_doLine_343 : decode cX0_doLine 343 = .ok (.iconst 1, 1) := by decide +kernel
theorem dX0_doLine_344 : decode cX0_doLine 344 = .ok (.iadd, 1) := by decide +kernel
theorem dX0_doLine_345 : decode cX0_doLine 345 = .ok (.ireturn, 1) := by decide +kernel
theorem dX0_enterLoop_0 : decode cX0_enterLoop 0 = .ok (.aload_n 0, 1) := by decide +kernel
theorem dX0_enterLoop_1 : decode cX0_enterLoop 1 = .ok (.getfield 9, 3) := by decide +kernel
theorem dX0_enterLoop_4 : decode cX0_enterLoop 4 = .ok (.iload_n 2, 1) := by decide +kernel
theorem dX0_enterLoop_5 : decode cX0_enterLoop 5 = .ok (.iaload, 1) := by decide +kernel
theorem dX0_enterLoop_6 : decode cX0_enterLoop 6 = .ok (.ifCond .gt 5, 3) := by decide +kernel
theorem dX0_enterLoop_9 : decode cX0_enterLoop 9 = .ok (.iconst 0, 1) := by decide +kernel
theorem dX0_enterLoop_10 : decode cX0_enterLoop 10 = .ok (.ireturn, 1) := by decide +kernel
theorem dX0_enterLoop_11 : decode cX0_enterLoop 11 = .ok (.aload_n 0, 1) := by decide +kernel
theorem dX0_enterLoop_12 : decode cX0_enterLoop 12 = .ok (.getfield 24, 3) := by decide +kernel
theorem dX0_enterLoop_15 : decode cX0_enterLoop 15 = .ok (.iload_n 1, 1) := by decide +kernel
theorem dX0_enterLoop_16 : decode cX0_enterLoop 16 = .ok (.aload_n 0, 1) := by decide +kernel
theorem dX0_enterLoop_17 : decode cX0_enterLoop 17 = .ok (.getfield 9, 3) := by decide +kernel
theorem dX0_enterLoop_20 : decode cX0_enterLoop 20 = .ok (.iload_n 2, 1) := by decide +kernel
theorem dX0_enterLoop_21 : decode cX0_enterLoop 21 = .ok (.iaload, 1) := by decide +kernel
theorem dX0_enterLoop_22 : decode cX0_enterLoop 22 = .ok (.i2l, 1) := by decide +kernel
theorem dX0_enterLoop_23 : decode cX0_enterLoop 23 = .ok (.iload_n 3, 1) := by decide +kernel
theorem dX0_enterLoop_24 : decode cX0_enterLoop 24 = .ok (.ifCond .eq 7, 3) := by decide +kernel
theorem dX0_enterLoop_27 : decode cX0_enterLoop 27 = .ok (.iconst 1, 1) := by decide +kernel
theorem dX0_enterLoop_28 : decode cX0_enterLoop 28 = .ok (.goto 4, 3) := by decide +kernel
theorem dX0_enterLoop_31 : decode cX0_enterLoop 31 = .ok (.iconst 0, 1) := by decide +kernel
theorem dX0_enterLoop_32 : decode cX0_enterLoop 32 = .ok (.i2l, 1) := by decide +kernel
theorem dX0_enterLoop_33 : decode cX0_enterLoop 33 = .ok (.ladd, 1) := by decide +kernel
theorem dX0_enterLoop_34 : decode cX0_enterLoop 34 = .ok (.lastore, 1) := by decide +kernel
theorem dX0_enterLoop_35 : decode cX0_enterLoop 35 = .ok (.iconst 1, 1) := by decide +kernel
theorem dX0_enterLoop_36 : decode cX0_enterLoop 36 = .ok (.ireturn, 1) := by decide +kernel
theorem dX0_isLess_0 : decode cX0_isLess 0 = .ok (.aload_n 0, 1) := by decide +kernel
theorem dX0_isLess_1 : decode cX0_isLess 1 = .ok (.getfield 9, 3) := by decide +kernel
theorem dX0_isLess_4 : decode cX0_isLess 4 = .ok (.iload_n 1, 1) := by decide +kernel
theorem dX0_isLess_5 : decode cX0_isLess 5 = .ok (.iaload, 1) := by decide +kernel
theorem dX0_isLess_6 : decode cX0_isLess 6 = .ok (.aload_n 0, 1) := by decide +kernel
theorem dX0_isLess_7 : decode cX0_isLess 7 = .ok (.getfield 9, 3) := by decide +kernel
theorem dX0_isLess_10 : decode cX0_isLess 10 = .ok (.iload_n 2, 1) := by decide +kernel
theorem dX0_isLess_11 : decode cX0_isLess 11 = .ok (.iaload, 1) := by decide +kernel
theorem dX0_isLess_12 : decode cX0_isLess 12 = .ok (.if_icmp .lt 22, 3) := by decide +kernel
theorem dX0_isLess_15 : decode cX0_isLess 15 = .ok (.iload_n 3, 1) := by decide +kernel
theorem dX0_isLess_16 : decode cX0_isLess 16 = .ok (.ifCond .eq 22, 3) := by decide +kernel
theorem dX0_isLess_19 : decode cX0_isLess 19 = .ok (.aload_n 0, 1) := by decide +kernel
theorem dX0_isLess_20 : decode cX0_isLess 20 = .ok (.getfield 9, 3) := by decide +kernel
theorem dX0_isLess_23 : decode cX0_isLess 23 = .ok (.iload_n 1, 1) := by decide +kernel
theorem dX0_isLess_24 : decode cX0_isLess 24 = .ok (.iaload, 1) := by decide +kernel
theorem dX0_isLess_25 : decode cX0_isLess 25 = .ok (.aload_n 0, 1) := by decide +kernel
theorem dX0_isLess_26 : decode cX0_isLess 26 = .ok (.getfield 9, 3) := by decide +kernel
theorem dX0_isLess_29 : decode cX0_isLess 29 = .ok (.iload_n 2, 1) := by decide +kernel
theorem dX0_isLess_30 : decode cX0_isLess 30 = .ok (.iaload, 1) := by decide +kernel
theorem dX0_isLess_31 : decode cX0_isLess 31 = .ok (.if_icmp .ne 7, 3) := by decide +kernel
theorem dX0_isLess_34 : decode cX0_isLess 34 = .ok (.iconst 1, 1) := by decide +kernel
theorem dX0_isLess_35 : decode cX0_isLess 35 = .ok (.goto 4, 3) := by decide +kernel
theorem dX0_isLess_38 : decode cX0_isLess 38 = .ok (.iconst 0, 1) := by decide +kernel
theorem dX0_isLess_39 : decode cX0_isLess 39 = .ok (.ireturn, 1) := by decide +kernel
theorem dX0_goesRound_0 : decode cX0_goesRound 0 = .ok (.aload_n 1, 1) := by decide +kernel
theorem dX0_goesRound_1 : decode cX0_goesRound 1 = .ok (.getfield 78, 3) := by decide +kernel
theorem dX0_goesRound_4 : decode cX0_goesRound 4 = .ok (.iload_n 2, 1) := by decide +kernel
theorem dX0_goesRound_5 : decode cX0_goesRound 5 = .ok (.iaload, 1) := by decide +kernel
theorem dX0_goesRound_6 : decode cX0_goesRound 6 = .ok (.istore_n 3, 1) := by decide +kernel
theorem dX0_goesRound_7 : decode cX0_goesRound 7 = .ok (.aload_n 1, 1) := by decide +kernel
theorem dX0_goesRound_8 : decode cX0_goesRound 8 = .ok (.getfield 67, 3) := by decide +kernel
theorem dX0_goesRound_11 : decode cX0_goesRound 11 = .ok (.iload_n 3, 1) := by decide +kernel
theorem dX0_goesRound_12 : decode cX0_goesRound 12 = .ok (.iaload, 1) := by decide +kernel
theorem dX0_goesRound_13 : decode cX0_goesRound 13 = .ok (.iconst 4, 1) := by decide +kernel
theorem dX0_goesRound_14 : decode cX0_goesRound 14 = .ok (.if_icmp .eq 5, 3) := by decide +kernel
theorem dX0_goesRound_17 : decode cX0_goesRound 17 = .ok (.iconst 0, 1) := by decide +kernel
theorem dX0_goesRound_18 : decode cX0_goesRound 18 = .ok (.ireturn, 1) := by decide +kernel
theorem dX0_goesRound_19 : decode cX0_goesRound 19 = .ok (.aload_n 0, 1) := by decide +kernel
theorem dX0_goesRound_20 : decode cX0_goesRound 20 = .ok (.getfield 24, 3) := by decide +kernel
theorem dX0_goesRound_23 : decode cX0_goesRound 23 = .ok (.iload_n 3, 1) := by decide +kernel
theorem dX0_goesRound_24 : decode cX0_goesRound 24 = .ok (.dup2, 1) := by decide +kernel
theorem dX0_goesRound_25 : decode cX0_goesRound 25 = .ok (.laload, 1) := by decide +kernel
theorem dX0_goesRound_26 : decode cX0_goesRound 26 = .ok (.lconst 1, 1) := by decide +kernel
theorem dX0_goesRound_27 : decode cX0_goesRound 27 = .ok (.lsub, 1) := by decide +kernel
theorem dX0_goesRound_28 : decode cX0_goesRound 28 = .ok (.lastore, 1) := by decide +kernel
theorem dX0_goesRound_29 : decode cX0_goesRound 29 = .ok (.aload_n 0, 1) := by decide +kernel
theorem dX0_goesRound_30 : decode cX0_goesRound 30 = .ok (.getfield 24, 3) := by decide +kernel
theorem dX0_goesRound_33 : decode cX0_goesRound 33 = .ok (.iload_n 3, 1) := by decide +kernel
theorem dX0_goesRound_34 : decode cX0_goesRound 34 = .ok (.laload, 1) := by decide +kernel
theorem dX0_goesRound_35 : decode cX0_goesRound 35 = .ok (.lconst 0, 1) := by decide +kernel
theorem dX0_goesRound_36 : decode cX0_goesRound 36 = .ok (.lcmp, 1) := by decide +kernel
theorem dX0_goesRound_37 : decode cX0_goesRound 37 = .ok (.ifCond .le 7, 3) := by decide +kernel
theorem dX0_goesRound_40 : decode cX0_goesRound 40 = .ok (.iconst 1, 1) := by decide +kernel
theorem dX0_goesRound_41 : decode cX0_goesRound 41 = .ok (.goto 4, 3) := by decide +kernel
theorem dX0_goesRound_44 : decode cX0_goesRound 44 = .ok (.iconst 0, 1) := by decide +kernel
theorem dX0_goesRound_45 : decode cX0_goesRound 45 = .ok (.ireturn, 1) := by decide +kernel
theorem dX0_placeOf_0 : decode cX0_placeOf 0 = .ok (.aload_n 0, 1) := by decide +kernel
theorem dX0_placeOf_1 : decode cX0_placeOf 1 = .ok (.getfield 18, 3) := by decide +kernel
theorem dX0_placeOf_4 : decode cX0_placeOf 4 = .ok (.iload_n 1, 1) := by decide +kernel
theorem dX0_placeOf_5 : decode cX0_placeOf 5 = .ok (.iconst 4, 1) := by decide +kernel
theorem dX0_placeOf_6 : decode cX0_placeOf 6 = .ok (.idiv, 1) := by decide +kernel
theorem dX0_placeOf_7 : decode cX0_placeOf 7 = .ok (.iaload, 1) := by decide +kernel
theorem dX0_placeOf_8 : decode cX0_placeOf 8 = .ok (.aload_n 0, 1) := by decide +kernel
theorem dX0_placeOf_9 : decode cX0_placeOf 9 = .ok (.getfield 9, 3) := by decide +kernel
theorem dX0_placeOf_12 : decode cX0_placeOf 12 = .ok (.iload_n 1, 1) := by decide +kernel
theorem dX0_placeOf_13 : decode cX0_placeOf 13 = .ok (.iconst 4, 1) := by decide +kernel
theorem dX0_placeOf_14 : decode cX0_placeOf 14 = .ok (.irem, 1) := by decide +kernel
theorem dX0_placeOf_15 : decode cX0_placeOf 15 = .ok (.iaload, 1) := by decide +kernel
theorem dX0_placeOf_16 : decode cX0_placeOf 16 = .ok (.iload_n 2, 1) := by decide +kernel
theorem dX0_placeOf_17 : decode cX0_placeOf 17 = .ok (.iadd, 1) := by decide +kernel
theorem dX0_placeOf_18 : decode cX0_placeOf 18 = .ok (.iconst 3, 1) := by decide +kernel
theorem dX0_placeOf_19 : decode cX0_placeOf 19 = .ok (.iand, 1) := by decide +kernel
theorem dX0_placeOf_20 : decode cX0_placeOf 20 = .ok (.iadd, 1) := by decide +kernel
theorem dX0_placeOf_21 : decode cX0_placeOf 21 = .ok (.ireturn, 1) := by decide +kernel
theorem dX0_doShare_0 : decode cX0_doShare 0 = .ok (.iload_n 3, 1) := by decide +kernel
theorem dX0_doShare_1 : decode cX0_doShare 1 = .ok (.ifCond .eq 49, 3) := by decide +kernel
theorem dX0_doShare_4 : decode cX0_doShare 4 = .ok (.iconst 0, 1) := by decide +kernel
theorem dX0_doShare_5 : decode cX0_doShare 5 = .ok (.istore 4, 2) := by decide +kernel
theorem dX0_doShare_7 : decode cX0_doShare 7 = .ok (.iload 4, 2) := by decide +kernel
theorem dX0_doShare_9 : decode cX0_doShare 9 = .ok (.iconst 4, 1) := by decide +kernel
theorem dX0_doShare_10 : decode cX0_doShare 10 = .ok (.if_icmp .ge 37, 3) := by decide +kernel
theorem dX0_doShare_13 : decode cX0_doShare 13 = .ok (.aload_n 0, 1) := by decide +kernel
theorem dX0_doShare_14 : decode cX0_doShare 14 = .ok (.getfield 15, 3) := by decide +kernel
theorem dX0_doShare_17 : decode cX0_doShare 17 = .ok (.aload_n 0, 1) := by decide +kernel
theorem dX0_doShare_18 : decode cX0_doShare 18 = .ok (.getfield 18, 3) := by decide +kernel
theorem dX0_doShare_21 : decode cX0_doShare 21 = .ok (.iload_n 1, 1) := by decide +kernel
theorem dX0_doShare_22 : decode cX0_doShare 22 = .ok (.iaload, 1) := by decide +kernel
theorem dX0_doShare_23 : decode cX0_doShare 23 = .ok (.iload 4, 2) := by decide +kernel
theorem dX0_doShare_25 : decode cX0_doShare 25 = .ok (.iadd, 1) := by decide +kernel
theorem dX0_doShare_26 : decode cX0_doShare 26 = .ok (.aload_n 0, 1) := by decide +kernel
theorem dX0_doShare_27 : decode cX0_doShare 27 = .ok (.getfield 15, 3) := by decide +kernel
theorem dX0_doShare_30 : decode cX0_doShare 30 = .ok (.aload_n 0, 1) := by decide +kernel
theorem dX0_doShare_31 : decode cX0_doShare 31 = .ok (.getfield 18, 3) := by decide +kernel
theorem dX0_doShare_34 : decode cX0_doShare 34 = .ok (.iload_n 2, 1) := by decide +kernel
theorem dX0_doShare_35 : decode cX0_doShare 35 = .ok (.iaload, 1) := by decide +kernel
theorem dX0_doShare_36 : decode cX0_doShare 36 = .ok (.iload 4, 2) := by decide +kernel
theorem dX0_doShare_38 : decode cX0_doShare 38 = .ok (.iadd, 1) := by decide +kernel
theorem dX0_doShare_39 : decode cX0_doShare 39 = .ok (.iaload, 1) := by decide +kernel
theorem dX0_doShare_40 : decode cX0_doShare 40 = .ok (.iastore, 1) := by decide +kernel
theorem dX0_doShare_41 : decode cX0_doShare 41 = .ok (.iinc 4 1, 3) := by decide +kernel
theorem dX0_doShare_44 : decode cX0_doShare 44 = .ok (.goto (-37), 3) := by decide +kernel
theorem dX0_doShare_47 : decode cX0_doShare 47 = .ok (.goto 15, 3) := by decide +kernel
theorem dX0_doShare_50 : decode cX0_doShare 50 = .ok (.aload_n 0, 1) := by decide +kernel
theorem dX0_doShare_51 : decode cX0_doShare 51 = .ok (.getfield 18, 3) := by decide +kernel
theorem dX0_doShare_54 : decode cX0_doShare 54 = .ok (.iload_n 1, 1) := by decide +kernel
theorem dX0_doShare_55 : decode cX0_doShare 55 = .ok (.aload_n 0, 1) := by decide +kernel
theorem dX0_doShare_56 : decode cX0_doShare 56 = .ok (.getfield 18, 3) := by decide +kernel
theorem dX0_doShare_59 : decode cX0_doShare 59 = .ok (.iload_n 2, 1) := by decide +kernel
theorem dX0_doShare_60 : decode cX0_doShare 60 = .ok (.iaload, 1) := by decide +kernel
theorem dX0_doShare_61 : decode cX0_doShare 61 = .ok (.iastore, 1) := by decide +kernel
theorem dX0_doShare_62 : decode cX0_doShare 62 = .ok (.return_, 1) := by decide +kernel
theorem dX0_cellOf_0 : decode cX0_cellOf 0 = .ok (.aload_n 0, 1) := by decide +kernel
theorem dX0_cellOf_1 : decode cX0_cellOf 1 = .ok (.getfield 15, 3) := by decide +kernel
theorem dX0_cellOf_4 : decode cX0_cellOf 4 = .ok (.aload_n 0, 1) := by decide +kernel
theorem dX0_cellOf_5 : decode cX0_cellOf 5 = .ok (.getfield 18, 3) := by decide +kernel
theorem dX0_cellOf_8 : decode cX0_cellOf 8 = .ok (.iload_n 1, 1) := by decide +kernel
theorem dX0_cellOf_9 : decode cX0_cellOf 9 = .ok (.iconst 4, 1) := by decide +kernel
theorem dX0_cellOf_10 : decode cX0_cellOf 10 = .ok (.idiv, 1) := by decide +kernel
theorem dX0_cellOf_11 : decode cX0_cellOf 11 = .ok (.iaload, 1) := by decide +kernel
theorem dX0_cellOf_12 : decode cX0_cellOf 12 = .ok (.iload_n 1, 1) := by decide +kernel
theorem dX0_cellOf_13 : decode cX0_cellOf 13 = .ok (.iconst 4, 1) := by decide +kernel
theorem dX0_cellOf_14 : decode cX0_cellOf 14 = .ok (.irem, 1) := by decide +kernel
theorem dX0_cellOf_15 : decode cX0_cellOf 15 = .ok (.iadd, 1) := by decide +kernel
theorem dX0_cellOf_16 : decode cX0_cellOf 16 = .ok (.iaload, 1) := by decide +kernel
theorem dX0_cellOf_17 : decode cX0_cellOf 17 = .ok (.ireturn, 1) := by decide +kernel
theorem dX0_namesShare_0 : decode cX0_namesShare 0 = .ok (.aload_n 0, 1) := by decide +kernel
theorem dX0_namesShare_1 : decode cX0_namesShare 1 = .ok (.getfield 18, 3) := by decide +kernel
theorem dX0_namesShare_4 : decode cX0_namesShare 4 = .ok (.iconst 0, 1) := by decide +kernel
theorem dX0_namesShare_5 : decode cX0_namesShare 5 = .ok (.iaload, 1) := by decide +kernel
theorem dX0_namesShare_6 : decode cX0_namesShare 6 = .ok (.aload_n 0, 1) := by decide +kernel
theorem dX0_namesShare_7 : decode cX0_namesShare 7 = .ok (.getfield 18, 3) := by decide +kernel
theorem dX0_namesShare_10 : decode cX0_namesShare 10 = .ok (.iconst 1, 1) := by decide +kernel
theorem dX0_namesShare_11 : decode cX0_namesShare 11 = .ok (.iaload, 1) := by decide +kernel
theorem dX0_namesShare_12 : decode cX0_namesShare 12 = .ok (.if_icmp .ne 7, 3) := by decide +kernel
theorem dX0_namesShare_15 : decode cX0_namesShare 15 = .ok (.iconst 1, 1) := by decide +kernel
theorem dX0_namesShare_16 : decode cX0_namesShare 16 = .ok (.goto 4, 3) := by decide +kernel
theorem dX0_namesShare_19 : decode cX0_namesShare 19 = .ok (.iconst 0, 1) := by decide +kernel
theorem dX0_namesShare_20 : decode cX0_namesShare 20 = .ok (.ireturn, 1) := by decide +kernel
theorem dX0_answerTo_0 : decode cX0_answerTo 0 = .ok (.iload_n 1, 1) := by decide +kernel
theorem dX0_answerTo_1 : decode cX0_answerTo 1 = .ok (.lookupswitch 41 #[(0, 27), (1, 34)], 27) := by decide +kernel
theorem dX0_answerTo_28 : decode cX0_answerTo 28 = .ok (.aload_n 0, 1) := by decide +kernel
theorem dX0_answerTo_29 : decode cX0_answerTo 29 = .ok (.getfield 9, 3) := by decide +kernel
theorem dX0_answerTo_32 : decode cX0_answerTo 32 = .ok (.iload_n 2, 1) := by decide +kernel
theorem dX0_answerTo_33 : decode cX0_answerTo 33 = .ok (.iaload, 1) := by decide +kernel
theorem dX0_answerTo_34 : decode cX0_answerTo 34 = .ok (.ireturn, 1) := by decide +kernel
theorem dX0_answerTo_35 : decode cX0_answerTo 35 = .ok (.aload_n 0, 1) := by decide +kernel
theorem dX0_answerTo_36 : decode cX0_answerTo 36 = .ok (.getfield 21, 3) := by decide +kernel
theorem dX0_answerTo_39 : decode cX0_answerTo 39 = .ok (.iload_n 2, 1) := by decide +kernel
theorem dX0_answerTo_40 : decode cX0_answerTo 40 = .ok (.iaload, 1) := by decide +kernel
theorem dX0_answerTo_41 : decode cX0_answerTo 41 = .ok (.ireturn, 1) := by decide +kernel
theorem dX0_answerTo_42 : decode cX0_answerTo 42 = .ok (.aload_n 0, 1) := by decide +kernel
theorem dX0_answerTo_43 : decode cX0_answerTo 43 = .ok (.iload_n 2, 1) := by decide +kernel
theorem dX0_answerTo_44 : decode cX0_answerTo 44 = .ok (.invokevirtual 96, 3) := by decide +kernel
theorem dX0_answerTo_47 : decode cX0_answerTo 47 = .ok (.ireturn, 1) := by decide +kernel
theorem dX0_endsWithVariablesOf_0 : decode cX0_endsWithVariablesOf 0 = .ok (.aload_n 0, 1) := by decide +kernel
theorem dX0_endsWithVariablesOf_1 : decode cX0_endsWithVariablesOf 1 = .ok (.getfield 51, 3) := by decide +kernel
theorem dX0_endsWithVariablesOf_4 : decode cX0_endsWithVariablesOf 4 = .ok (.ifCond .ne 10, 3) := by decide +kernel
theorem dX0_endsWithVariablesOf_7 : decode cX0_endsWithVariablesOf 7 = .ok (.aload_n 1, 1) := by decide +kernel
theorem dX0_endsWithVariablesOf_8 : decode cX0_endsWithVariablesOf 8 = .ok (.getfield 51, 3) := by decide +kernel
theorem dX0_endsWithVariablesOf_11 : decode cX0_endsWithVariablesOf 11 = .ok (.ifCond .eq 23, 3) := by decide +kernel
theorem dX0_endsWithVariablesOf_14 : decode cX0_endsWithVariablesOf 14 = .ok (.aload_n 0, 1) := by decide +kernel
theorem dX0_endsWithVariablesOf_15 : decode cX0_endsWithVariablesOf 15 = .ok (.getfield 51, 3) := by decide +kernel
theorem dX0_endsWithVariablesOf_18 : decode cX0_endsWithVariablesOf 18 = .ok (.ifCond .eq 14, 3) := by decide +kernel
theorem dX0_endsWithVariablesOf_21 : decode cX0_endsWithVariablesOf 21 = .ok (.aload_n 1, 1) := by decide +kernel
theorem dX0_endsWithVariablesOf_22 : decode cX0_endsWithVariablesOf 22 = .ok (.getfield 51, 3) := by decide +kernel
theorem dX0_endsWithVariablesOf_25 : decode cX0_endsWithVariablesOf 25 = .ok (.ifCond .eq 7, 3) := by decide +kernel
theorem dX0_endsWithVariablesOf_28 : decode cX0_endsWithVariablesOf 28 = .ok (.iconst 1, 1) := by decide +kernel
theorem dX0_endsWithVariablesOf_29 : decode cX0_endsWithVariablesOf 29 = .ok (.goto 4, 3) := by decide +kernel
theorem dX0_endsWithVariablesOf_32 : decode cX0_endsWithVariablesOf 32 = .ok (.iconst 0, 1) := by decide +kernel
theorem dX0_endsWithVariablesOf_33 : decode cX0_endsWithVariablesOf 33 = .ok (.ireturn, 1) := by decide +kernel
theorem dX0_endsWithVariablesOf_34 : decode cX0_endsWithVariablesOf 34 = .ok (.iconst 0, 1) := by decide +kernel
theorem dX0_endsWithVariablesOf_35 : decode cX0_endsWithVariablesOf 35 = .ok (.istore_n 2, 1) := by decide +kernel
theorem dX0_endsWithVariablesOf_36 : decode cX0_endsWithVariablesOf 36 = .ok (.iload_n 2, 1) := by decide +kernel
theorem dX0_endsWithVariablesOf_37 : decode cX0_endsWithVariablesOf 37 = .ok (.iconst 4, 1) := by decide +kernel
theorem dX0_endsWithVariablesOf_38 : decode cX0_endsWithVariablesOf 38 = .ok (.if_icmp .ge 26, 3) := by decide +kernel
theorem dX0_endsWithVariablesOf_41 : decode cX0_endsWithVariablesOf 41 = .ok (.aload_n 0, 1) := by decide +kernel
theorem dX0_endsWithVariablesOf_42 : decode cX0_endsWithVariablesOf 42 = .ok (.getfield 9, 3) := by decide +kernel
theorem dX0_endsWithVariablesOf_45 : decode cX0_endsWithVariablesOf 45 = .ok (.iload_n 2, 1) := by decide +kernel
theorem dX0_endsWithVariablesOf_46 : decode cX0_endsWithVariablesOf 46 = .ok (.iaload, 1) := by decide +kernel
theorem dX0_endsWithVariablesOf_47 : decode cX0_endsWithVariablesOf 47 = .ok (.aload_n 1, 1) := by decide +kernel
theorem dX0_endsWithVariablesOf_48 : decode cX0_endsWithVariablesOf 48 = .ok (.getfield 9, 3) := by decide +kernel
theorem dX0_endsWithVariablesOf_51 : decode cX0_endsWithVariablesOf 51 = .ok (.iload_n 2, 1) := by decide +kernel
theorem dX0_endsWithVariablesOf_52 : decode cX0_endsWithVariablesOf 52 = .ok (.iaload, 1) := by decide +kernel
theorem dX0_endsWithVariablesOf_53 : decode cX0_endsWithVariablesOf 53 = .ok (.if_icmp .eq 5, 3) := by decide +kernel
theorem dX0_endsWithVariablesOf_56 : decode cX0_endsWithVariablesOf 56 = .ok (.iconst 0, 1) := by decide +kernel
theorem dX0_endsWithVariablesOf_57 : decode cX0_endsWithVariablesOf 57 = .ok (.ireturn, 1) := by decide +kernel
theorem dX0_endsWithVariablesOf_58 : decode cX0_endsWithVariablesOf 58 = .ok (.iinc 2 1, 3) := by decide +kernel
theorem dX0_endsWithVariablesOf_61 : decode cX0_endsWithVariablesOf 61 = .ok (.goto (-25), 3) := by decide +kernel
theorem dX0_endsWithVariablesOf_64 : decode cX0_endsWithVariablesOf 64 = .ok (.iconst 1, 1) := by decide +kernel
theorem dX0_endsWithVariablesOf_65 : decode cX0_endsWithVariablesOf 65 = .ok (.ireturn, 1) := by decide +kernel
theorem dX0_endsLike_0 : decode cX0_endsLike 0 = .ok (.aload_n 0, 1) := by decide +kernel
theorem dX0_endsLike_1 : decode cX0_endsLike 1 = .ok (.aload_n 1, 1) := by decide +kernel
theorem dX0_endsLike_2 : decode cX0_endsLike 2 = .ok (.invokevirtual 100, 3) := by decide +kernel
theorem dX0_endsLike_5 : decode cX0_endsLike 5 = .ok (.ifCond .ne 5, 3) := by decide +kernel
theorem dX0_endsLike_8 : decode cX0_endsLike 8 = .ok (.iconst 0, 1) := by decide +kernel
theorem dX0_endsLike_9 : decode cX0_endsLike 9 = .ok (.ireturn, 1) := by decide +kernel
theorem dX0_endsLike_10 : decode cX0_endsLike 10 = .ok (.aload_n 0, 1) := by decide +kernel
theorem dX0_endsLike_11 : decode cX0_endsLike 11 = .ok (.getfield 51, 3) := by decide +kernel
theorem dX0_endsLike_14 : decode cX0_endsLike 14 = .ok (.ifCond .eq 5, 3) := by decide +kernel
theorem dX0_endsLike_17 : decode cX0_endsLike 17 = .ok (.iconst 1, 1) := by decide +kernel
theorem dX0_endsLike_18 : decode cX0_endsLike 18 = .ok (.ireturn, 1) := by decide +kernel
theorem dX0_endsLike_19 : decode cX0_endsLike 19 = .ok (.iconst 0, 1) := by decide +kernel
theorem dX0_endsLike_20 : decode cX0_endsLike 20 = .ok (.istore_n 2, 1) := by decide +kernel
theorem dX0_endsLike_21 : decode cX0_endsLike 21 = .ok (.iload_n 2, 1) := by decide +kernel
theorem dX0_endsLike_22 : decode cX0_endsLike 22 = .ok (.bipush 8, 2) := by decide +kernel
theorem dX0_endsLike_24 : decode cX0_endsLike 24 = .ok (.if_icmp .ge 24, 3) := by decide +kernel
theorem dX0_endsLike_27 : decode cX0_endsLike 27 = .ok (.aload_n 0, 1) := by decide +kernel
theorem dX0_endsLike_28 : decode cX0_endsLike 28 = .ok (.iload_n 2, 1) := by decide +kernel
theorem dX0_endsLike_29 : decode cX0_endsLike 29 = .ok (.invokevirtual 96, 3) := by decide +kernel
theorem dX0_endsLike_32 : decode cX0_endsLike 32 = .ok (.aload_n 1, 1) := by decide +kernel
theorem dX0_endsLike_33 : decode cX0_endsLike 33 = .ok (.iload_n 2, 1) := by decide +kernel
theorem dX0_endsLike_34 : decode cX0_endsLike 34 = .ok (.invokevirtual 96, 3) := by decide +kernel
theorem dX0_endsLike_37 : decode cX0_endsLike 37 = .ok (.if_icmp .eq 5, 3) := by decide +kernel
theorem dX0_endsLike_40 : decode cX0_endsLike 40 = .ok (.iconst 0, 1) := by decide +kernel
theorem dX0_endsLike_41 : decode cX0_endsLike 41 = .ok (.ireturn, 1) := by decide +kernel
theorem dX0_endsLike_42 : decode cX0_endsLike 42 = .ok (.iinc 2 1, 3) := by decide +kernel
theorem dX0_endsLike_45 : decode cX0_endsLike 45 = .ok (.goto (-24), 3) := by decide +kernel
theorem dX0_endsLike_48 : decode cX0_endsLike 48 = .ok (.iconst 1, 1) := by decide +kernel
theorem dX0_endsLike_49 : decode cX0_endsLike 49 = .ok (.ireturn, 1) := by decide +kernel
theorem dX1_init_0 : decode cX1_init 0 = .ok (.aload_n 0, 1) := by decide +kernel
theorem dX1_init_1 : decode cX1_init 1 = .ok (.invokespecial 3, 3) := by decide +kernel
theorem dX1_init_4 : decode cX1_init 4 = .ok (.aload_n 0, 1) := by decide +kernel
theorem dX1_init_5 : decode cX1_init 5 = .ok (.bipush 20, 2) := by decide +kernel
theorem dX1_init_7 : decode cX1_init 7 = .ok (.newarray .int, 2) := by decide +kernel
theorem dX1_init_9 : decode cX1_init 9 = .ok (.putfield 9, 3) := by decide +kernel
theorem dX1_init_12 : decode cX1_init 12 = .ok (.aload_n 0, 1) := by decide +kernel
theorem dX1_init_13 : decode cX1_init 13 = .ok (.bipush 20, 2) := by decide +kernel
theorem dX1_init_15 : decode cX1_init 15 = .ok (.newarray .int, 2) := by decide +kernel
theorem dX1_init_17 : decode cX1_init 17 = .ok (.putfield 15, 3) := by decide +kernel
theorem dX1_init_20 : decode cX1_init 20 = .ok (.aload_n 0, 1) := by decide +kernel
theorem dX1_init_21 : decode cX1_init 21 = .ok (.bipush 20, 2) := by decide +kernel
theorem dX1_init_23 : decode cX1_init 23 = .ok (.newarray .int, 2) := by decide +kernel
theorem dX1_init_25 : decode cX1_init 25 = .ok (.putfield 18, 3) := by decide +kernel
theorem dX1_init_28 : decode cX1_init 28 = .ok (.aload_n 0, 1) := by decide +kernel
theorem dX1_init_29 : decode cX1_init 29 = .ok (.bipush 20, 2) := by decide +kernel
theorem dX1_init_31 : decode cX1_init 31 = .ok (.newarray .int, 2) := by decide +kernel
theorem dX1_init_33 : decode cX1_init 33 = .ok (.putfield 21, 3) := by decide +kernel
theorem dX1_init_36 : decode cX1_init 36 = .ok (.aload_n 0, 1) := by decide +kernel
theorem dX1_init_37 : decode cX1_init 37 = .ok (.bipush 20, 2) := by decide +kernel
theorem dX1_init_39 : decode cX1_init 39 = .ok (.newarray .int, 2) := by decide +kernel
theorem dX1_init_41 : decode cX1_init 41 = .ok (.putfield 24, 3) := by decide +kernel
theorem dX1_init_44 : decode cX1_init 44 = .ok (.aload_n 0, 1) := by decide +kernel
theorem dX1_init_45 : decode cX1_init 45 = .ok (.bipush 20, 2) := by decide +kernel
theorem dX1_init_47 : decode cX1_init 47 = .ok (.newarray .int, 2) := by decide +kernel
theorem dX1_init_49 : decode cX1_init 49 = .ok (.putfield 27, 3) := by decide +kernel
theorem dX1_init_52 : decode cX1_init 52 = .ok (.return_, 1) := by decide +kernel
theorem dX1_hasLine_0 : decode cX1_hasLine 0 = .ok (.iload_n 1, 1) := by decide +kernel
theorem dX1_hasLine_1 : decode cX1_hasLine 1 = .ok (.ifCond .lt 15, 3) := by decide +kernel
theorem dX1_hasLine_4 : decode cX1_hasLine 4 = .ok (.iload_n 1, 1) := by decide +kernel
theorem dX1_hasLine_5 : decode cX1_hasLine 5 = .ok (.aload_n 0, 1) := by decide +kernel
theorem dX1_hasLine_6 : decode cX1_hasLine 6 = .ok (.getfield 30, 3) := by decide +kernel
theorem dX1_hasLine_9 : decode cX1_hasLine 9 = .ok (.if_icmp .ge 7, 3) := by decide +kernel
theorem dX1_hasLine_12 : decode cX1_hasLine 12 = .ok (.iconst 1, 1) := by decide +kernel
theorem dX1_hasLine_13 : decode cX1_hasLine 13 = .ok (.goto 4, 3) := by decide +kernel
theorem dX1_hasLine_16 : decode cX1_hasLine 16 = .ok (.iconst 0, 1) := by decide +kernel
theorem dX1_hasLine_17 : decode cX1_hasLine 17 = .ok (.ireturn, 1) := by decide +kernel
theorem dX1_isWhole_0 : decode cX1_isWhole 0 = .ok (.aload_n 0, 1) := by decide +kernel
theorem dX1_isWhole_1 : decode cX1_isWhole 1 = .ok (.getfield 34, 3) := by decide +kernel
theorem dX1_isWhole_4 : decode cX1_isWhole 4 = .ok (.ifCond .ne 7, 3) := by decide +kernel
theorem dX1_isWhole_7 : decode cX1_isWhole 7 = .ok (.iconst 1, 1) := by decide +kernel
theorem dX1_isWhole_8 : decode cX1_isWhole 8 = .ok (.goto 4, 3) := by decide +kernel
theorem dX1_isWhole_11 : decode cX1_isWhole 11 = .ok (.iconst 0, 1) := by decide +kernel
theorem dX1_isWhole_12 : decode cX1_isWhole 12 = .ok (.ireturn, 1) := by decide +kernel
theorem dX1_append_0 : decode cX1_append 0 = .ok (.aload_n 0, 1) := by decide +kernel
theorem dX1_append_1 : decode cX1_append 1 = .ok (.getfield 30, 3) := by decide +kernel
theorem dX1_append_4 : decode cX1_append 4 = .ok (.bipush 20, 2) := by decide +kernel
theorem dX1_append_6 : decode cX1_append 6 = .ok (.if_icmp .lt 6, 3) := by decide +kernel
theorem dX1_append_9 : decode cX1_append 9 = .ok (.bipush (-2), 2) := by decide +kernel
theorem dX1_append_11 : decode cX1_append 11 = .ok (.ireturn, 1) := by decide +kernel
theorem dX1_append_12 : decode cX1_append 12 = .ok (.aload_n 0, 1) := by decide +kernel
theorem dX1_append_13 : decode cX1_append 13 = .ok (.getfield 9, 3) := by decide +kernel
theorem dX1_append_16 : decode cX1_append 16 = .ok (.aload_n 0, 1) := by decide +kernel
theorem dX1_append_17 : decode cX1_append 17 = .ok (.getfield 30, 3) := by decide +kernel
theorem dX1_append_20 : decode cX1_append 20 = .ok (.iload_n 1, 1) := by decide +kernel
theorem dX1_append_21 : decode cX1_append 21 = .ok (.iastore, 1) := by decide +kernel
theorem dX1_append_22 : decode cX1_append 22 = .ok (.aload_n 0, 1) := by decide +kernel
theorem dX1_append_23 : decode cX1_append 23 = .ok (.getfield 15, 3) := by decide +kernel
theorem dX1_append_26 : decode cX1_append 26 = .ok (.aload_n 0, 1) := by decide +kernel
theorem dX1_append_27 : decode cX1_append 27 = .ok (.getfield 30, 3) := by decide +kernel
theorem dX1_append_30 : decode cX1_append 30 = .ok (.iload_n 2, 1) := by decide +kernel
theorem dX1_append_31 : decode cX1_append 31 = .ok (.iastore, 1) := by decide +kernel
theorem dX1_append_32 : decode cX1_append 32 = .ok (.aload_n 0, 1) := by decide +kernel
theorem dX1_append_33 : decode cX1_append 33 = .ok (.getfield 18, 3) := by decide +kernel
theorem dX1_append_36 : decode cX1_append 36 = .ok (.aload_n 0, 1) := by decide +kernel
theorem dX1_append_37 : decode cX1_append 37 = .ok (.getfield 30, 3) := by decide +kernel
theorem dX1_append_40 : decode cX1_append 40 = .ok (.iload_n 3, 1) := by decide +kernel
theorem dX1_append_41 : decode cX1_append 41 = .ok (.iastore, 1) := by decide +kernel
theorem dX1_append_42 : decode cX1_append 42 = .ok (.aload_n 0, 1) := by decide +kernel
theorem dX1_append_43 : decode cX1_append 43 = .ok (.getfield 21, 3) := by decide +kernel
theorem dX1_append_46 : decode cX1_append 46 = .ok (.aload_n 0, 1) := by decide +kernel
theorem dX1_append_47 : decode cX1_append 47 = .ok (.getfield 30, 3) := by decide +kernel
theorem dX1_append_50 : decode cX1_append 50 = .ok (.aload_n 0, 1) := by decide +kernel
theorem dX1_append_51 : decode cX1_append 51 = .ok (.getfield 34, 3) := by decide +kernel
theorem dX1_append_54 : decode cX1_append 54 = .ok (.iastore, 1) := by decide +kernel
theorem dX1_append_55 : decode cX1_append 55 = .ok (.iload_n 1, 1) := by decide +kernel
theorem dX1_append_56 : decode cX1_append 56 = .ok (.iconst 4, 1) := by decide +kernel
theorem dX1_append_57 : decode cX1_append 57 = .ok (.if_icmp .eq 8, 3) := by decide +kernel
theorem dX1_append_60 : decode cX1_append 60 = .ok (.iload_n 1, 1) := by decide +kernel
theorem dX1_append_61 : decode cX1_append 61 = .ok (.iconst 5, 1) := by decide +kernel
theorem dX1_append_62 : decode cX1_append 62 = .ok (.if_icmp .ne 29, 3) := by decide +kernel
theorem dX1_append_65 : decode cX1_append 65 = .ok (.aload_n 0, 1) := by decide +kernel
theorem dX1_append_66 : decode cX1_append 66 = .ok (.getfield 27, 3) := by decide +kernel
theorem dX1_append_69 : decode cX1_append 69 = .ok (.aload_n 0, 1) := by decide +kernel
theorem dX1_append_70 : decode cX1_append 70 = .ok (.getfield 34, 3) := by decide +kernel
theorem dX1_append_73 : decode cX1_append 73 = .ok (.aload_n 0, 1) := by decide +kernel
theorem dX1_append_74 : decode cX1_append 74 = .ok (.getfield 30, 3) := by decide +kernel
theorem dX1_append_77 : decode cX1_append 77 = .ok (.iastore, 1) := by decide +kernel
theorem dX1_append_78 : decode cX1_append 78 = .ok (.aload_n 0, 1) := by decide +kernel
theorem dX1_append_79 : decode cX1_append 79 = .ok (.dup, 1) := by decide +kernel
theorem dX1_append_80 : decode cX1_append 80 = .ok (.getfield 34, 3) := by decide +kernel
theorem dX1_append_83 : decode cX1_append 83 = .ok (.iconst 1, 1) := by decide +kernel
theorem dX1_append_84 : decode cX1_append 84 = .ok (.iadd, 1) := by decide +kernel
theorem dX1_append_85 : decode cX1_append 85 = .ok (.putfield 34, 3) := by decide +kernel
theorem dX1_append_88 : decode cX1_append 88 = .ok (.goto 62, 3) := by decide +kernel
theorem dX1_append_91 : decode cX1_append 91 = .ok (.iload_n 1, 1) := by decide +kernel
theorem dX1_append_92 : decode cX1_append 92 = .ok (.bipush 6, 2) := by decide +kernel
theorem dX1_append_94 : decode cX1_append 94 = .ok (.if_icmp .ne 56, 3) := by decide +kernel
theorem dX1_append_97 : decode cX1_append 97 = .ok (.aload_n 0, 1) := by decide +kernel
theorem dX1_append_98 : decode cX1_append 98 = .ok (.getfield 34, 3) := by decide +kernel
theorem dX1_append_101 : decode cX1_append 101 = .ok (.ifCond .le 49, 3) := by decide +kernel
theorem dX1_append_104 : decode cX1_append 104 = .ok (.aload_n 0, 1) := by decide +kernel
theorem dX1_append_105 : decode cX1_append 105 = .ok (.dup, 1) := by decide +kernel
theorem dX1_append_106 : decode cX1_append 106 = .ok (.getfield 34, 3) := by decide +kernel
theorem dX1_append_109 : decode cX1_append 109 = .ok (.iconst 1, 1) := by decide +kernel
theorem dX1_append_110 : decode cX1_append 110 = .ok (.isub, 1) := by decide +kernel
theorem dX1_append_111 : decode cX1_append 111 = .ok (.putfield 34, 3) := by decide +kernel
theorem dX1_append_114 : decode cX1_append 114 = .ok (.aload_n 0, 1) := by decide +kernel
theorem dX1_append_115 : decode cX1_append 115 = .ok (.getfield 24, 3) := by decide +kernel
theorem dX1_append_118 : decode cX1_append 118 = .ok (.aload_n 0, 1) := by decide +kernel
theorem dX1_append_119 : decode cX1_append 119 = .ok (.getfield 30, 3) := by decide +kernel
theorem dX1_append_122 : decode cX1_append 122 = .ok (.aload_n 0, 1) := by decide +kernel
theorem dX1_append_123 : decode cX1_append 123 = .ok (.getfield 27, 3) := by decide +kernel
theorem dX1_append_126 : decode cX1_append 126 = .ok (.aload_n 0, 1) := by decide +kernel
theorem dX1_append_127 : decode cX1_append 127 = .ok (.getfield 34, 3) := by decide +kernel
theorem dX1_append_130 : decode cX1_append 130 = .ok (.iaload, 1) := by decide +kernel
theorem dX1_append_131 : decode cX1_append 131 = .ok (.iastore, 1) := by decide +kernel
theorem dX1_append_132 : decode cX1_append 132 = .ok (.aload_n 0, 1) := by decide +kernel
theorem dX1_append_133 : decode cX1_append 133 = .ok (.getfield 24, 3) := by decide +kernel
theorem dX1_append_136 : decode cX1_append 136 = .ok (.aload_n 0, 1) := by decide +kernel
theorem dX1_append_137 : decode cX1_append 137 = .ok (.getfield 27, 3) := by decide +kernel
theorem dX1_append_140 : decode cX1_append 140 = .ok (.aload_n 0, 1) := by decide +kernel
theorem dX1_append_141 : decode cX1_append 141 = .ok (.getfield 34, 3) := by decide +kernel
theorem dX1_append_144 : decode cX1_append 144 = .ok (.iaload, 1) := by decide +kernel
theorem dX1_append_145 : decode cX1_append 145 = .ok (.aload_n 0, 1) := by decide +kernel
theorem dX1_append_146 : decode cX1_append 146 = .ok (.getfield 30, 3) := by decide +kernel
theorem dX1_append_149 : decode cX1_append 149 = .ok (.iastore, 1) := by decide +kernel
theorem dX1_append_150 : decode cX1_append 150 = .ok (.aload_n 0, 1) := by decide +kernel
theorem dX1_append_151 : decode cX1_append 151 = .ok (.dup, 1) := by decide +kernel
theorem dX1_append_152 : decode cX1_append 152 = .ok (.getfield 30, 3) := by decide +kernel
theorem dX1_append_155 : decode cX1_append 155 = .ok (.dup_x1, 1) := by decide +kernel
theorem dX1_append_156 : decode cX1_append 156 = .ok (.iconst 1, 1) := by decide +kernel
theorem dX1_append_157 : decode cX1_append 157 = .ok (.iadd, 1) := by decide +kernel
theorem dX1_append_158 : decode cX1_append 158 = .ok (.putfield 30, 3) := by decide +kernel
theorem dX1_append_161 : decode cX1_append 161 = .ok (.ireturn, 1) := by decide +kernel
theorem dX2_init_0 : decode cX2_init 0 = .ok (.aload_n 0, 1) := by decide +kernel
theorem dX2_init_1 : decode cX2_init 1 = .ok (.invokespecial 3, 3) := by decide +kernel
theorem dX2_init_4 : decode cX2_init 4 = .ok (.aload_n 0, 1) := by decide +kernel
theorem dX2_init_5 : decode cX2_init 5 = .ok (.bipush 60, 2) := by decide +kernel
theorem dX2_init_7 : decode cX2_init 7 = .ok (.newarray .int, 2) := by decide +kernel
theorem dX2_init_9 : decode cX2_init 9 = .ok (.putfield 9, 3) := by decide +kernel
theorem dX2_init_12 : decode cX2_init 12 = .ok (.return_, 1) := by decide +kernel
theorem dX2_hasAnswered_0 : decode cX2_hasAnswered 0 = .ok (.aload_n 0, 1) := by decide +kernel
theorem dX2_hasAnswered_1 : decode cX2_hasAnswered 1 = .ok (.getfield 15, 3) := by decide +kernel
theorem dX2_hasAnswered_4 : decode cX2_hasAnswered 4 = .ok (.iload_n 1, 1) := by decide +kernel
theorem dX2_hasAnswered_5 : decode cX2_hasAnswered 5 = .ok (.invokestatic 19, 3) := by decide +kernel
theorem dX2_hasAnswered_8 : decode cX2_hasAnswered 8 = .ok (.ireturn, 1) := by decide +kernel
theorem dX2_note_0 : decode cX2_note 0 = .ok (.aload_n 0, 1) := by decide +kernel
theorem dX2_note_1 : decode cX2_note 1 = .ok (.getfield 9, 3) := by decide +kernel
theorem dX2_note_4 : decode cX2_note 4 = .ok (.iload_n 1, 1) := by decide +kernel
theorem dX2_note_5 : decode cX2_note 5 = .ok (.iload_n 2, 1) := by decide +kernel
theorem dX2_note_6 : decode cX2_note 6 = .ok (.iastore, 1) := by decide +kernel
theorem dX2_note_7 : decode cX2_note 7 = .ok (.aload_n 0, 1) := by decide +kernel
theorem dX2_note_8 : decode cX2_note 8 = .ok (.dup, 1) := by decide +kernel
theorem dX2_note_9 : decode cX2_note 9 = .ok (.getfield 15, 3) := by decide +kernel
theorem dX2_note_12 : decode cX2_note 12 = .ok (.lconst 1, 1) := by decide +kernel
theorem dX2_note_13 : decode cX2_note 13 = .ok (.iload_n 1, 1) := by decide +kernel
theorem dX2_note_14 : decode cX2_note 14 = .ok (.lshl, 1) := by decide +kernel
theorem dX2_note_15 : decode cX2_note 15 = .ok (.lor, 1) := by decide +kernel
theorem dX2_note_16 : decode cX2_note 16 = .ok (.putfield 15, 3) := by decide +kernel
theorem dX2_note_19 : decode cX2_note 19 = .ok (.aload_n 0, 1) := by decide +kernel
theorem dX2_note_20 : decode cX2_note 20 = .ok (.getfield 15, 3) := by decide +kernel
theorem dX2_note_23 : decode cX2_note 23 = .ok (.invokestatic 23, 3) := by decide +kernel
theorem dX2_note_26 : decode cX2_note 26 = .ok (.ireturn, 1) := by decide +kernel
theorem dX3_init_0 : decode cX3_init 0 = .ok (.aload_n 0, 1) := by decide +kernel
theorem dX3_init_1 : decode cX3_init 1 = .ok (.invokespecial 3, 3) := by decide +kernel
theorem dX3_init_4 : decode cX3_init 4 = .ok (.aload_n 0, 1) := by decide +kernel
theorem dX3_init_5 : decode cX3_init 5 = .ok (.bipush 64, 2) := by decide +kernel
theorem dX3_init_7 : decode cX3_init 7 = .ok (.newarray .int, 2) := by decide +kernel
theorem dX3_init_9 : decode cX3_init 9 = .ok (.putfield 9, 3) := by decide +kernel
theorem dX3_init_12 : decode cX3_init 12 = .ok (.aload_n 0, 1) := by decide +kernel
theorem dX3_init_13 : decode cX3_init 13 = .ok (.aload_n 1, 1) := by decide +kernel
theorem dX3_init_14 : decode cX3_init 14 = .ok (.putfield 15, 3) := by decide +kernel
theorem dX3_init_17 : decode cX3_init 17 = .ok (.aload_n 0, 1) := by decide +kernel
theorem dX3_init_18 : decode cX3_init 18 = .ok (.iload_n 2, 1) := by decide +kernel
theorem dX3_init_19 : decode cX3_init 19 = .ok (.putfield 19, 3) := by decide +kernel
theorem dX3_init_22 : decode cX3_init 22 = .ok (.aload_n 0, 1) := by decide +kernel
theorem dX3_init_23 : decode cX3_init 23 = .ok (.iload_n 3, 1) := by decide +kernel
theorem dX3_init_24 : decode cX3_init 24 = .ok (.putfield 23, 3) := by decide +kernel
theorem dX3_init_27 : decode cX3_init 27 = .ok (.aload_n 0, 1) := by decide +kernel
theorem dX3_init_28 : decode cX3_init 28 = .ok (.iload 4, 2) := by decide +kernel
theorem dX3_init_30 : decode cX3_init 30 = .ok (.putfield 26, 3) := by decide +kernel
theorem dX3_init_33 : decode cX3_init 33 = .ok (.return_, 1) := by decide +kernel
theorem dX3_knows_0 : decode cX3_knows 0 = .ok (.aload_n 0, 1) := by decide +kernel
theorem dX3_knows_1 : decode cX3_knows 1 = .ok (.getfield 29, 3) := by decide +kernel
theorem dX3_knows_4 : decode cX3_knows 4 = .ok (.iload_n 1, 1) := by decide +kernel
theorem dX3_knows_5 : decode cX3_knows 5 = .ok (.invokestatic 33, 3) := by decide +kernel
theorem dX3_knows_8 : decode cX3_knows 8 = .ok (.ireturn, 1) := by decide +kernel
theorem dX3_keep_0 : decode cX3_keep 0 = .ok (.aload_n 0, 1) := by decide +kernel
theorem dX3_keep_1 : decode cX3_keep 1 = .ok (.getfield 9, 3) := by decide +kernel
theorem dX3_keep_4 : decode cX3_keep 4 = .ok (.iload_n 1, 1) := by decide +kernel
theorem dX3_keep_5 : decode cX3_keep 5 = .ok (.iload_n 2, 1) := by decide +kernel
theorem dX3_keep_6 : decode cX3_keep 6 = .ok (.iastore, 1) := by decide +kernel
theorem dX3_keep_7 : decode cX3_keep 7 = .ok (.aload_n 0, 1) := by decide +kernel
theorem dX3_keep_8 : decode cX3_keep 8 = .ok (.dup, 1) := by decide +kernel
theorem dX3_keep_9 : decode cX3_keep 9 = .ok (.getfield 29, 3) := by decide +kernel
theorem dX3_keep_12 : decode cX3_keep 12 = .ok (.lconst 1, 1) := by decide +kernel
theorem dX3_keep_13 : decode cX3_keep 13 = .ok (.iload_n 1, 1) := by decide +kernel
theorem dX3_keep_14 : decode cX3_keep 14 = .ok (.lshl, 1) := by decide +kernel
theorem dX3_keep_15 : decode cX3_keep 15 = .ok (.lor, 1) := by decide +kernel
theorem dX3_keep_16 : decode cX3_keep 16 = .ok (.putfield 29, 3) := by decide +kernel
theorem dX3_keep_19 : decode cX3_keep 19 = .ok (.return_, 1) := by decide +kernel
theorem dX4_init_0 : decode cX4_init 0 = .ok (.aload_n 0, 1) := by decide +kernel
theorem dX4_init_1 : decode cX4_init 1 = .ok (.invokespecial 3, 3) := by decide +kernel
theorem dX4_init_4 : decode cX4_init 4 = .ok (.aload_n 0, 1) := by decide +kernel
theorem dX4_init_5 : decode cX4_init 5 = .ok (.bipush 10, 2) := by decide +kernel
theorem dX4_init_7 : decode cX4_init 7 = .ok (.anewarray 9, 3) := by decide +kernel
theorem dX4_init_10 : decode cX4_init 10 = .ok (.putfield 11, 3) := by decide +kernel
theorem dX4_init_13 : decode cX4_init 13 = .ok (.aload_n 0, 1) := by decide +kernel
theorem dX4_init_14 : decode cX4_init 14 = .ok (.bipush 60, 2) := by decide +kernel
theorem dX4_init_16 : decode cX4_init 16 = .ok (.anewarray 15, 3) := by decide +kernel
theorem dX4_init_19 : decode cX4_init 19 = .ok (.putfield 17, 3) := by decide +kernel
theorem dX4_init_22 : decode cX4_init 22 = .ok (.aload_n 0, 1) := by decide +kernel
theorem dX4_init_23 : decode cX4_init 23 = .ok (.bipush 10, 2) := by decide +kernel
theorem dX4_init_25 : decode cX4_init 25 = .ok (.anewarray 21, 3) := by decide +kernel
theorem dX4_init_28 : decode cX4_init 28 = .ok (.putfield 23, 3) := by decide +kernel
theorem dX4_init_31 : decode cX4_init 31 = .ok (.aload_n 0, 1) := by decide +kernel
theorem dX4_init_32 : decode cX4_init 32 = .ok (.bipush 7, 2) := by decide +kernel
theorem dX4_init_34 : decode cX4_init 34 = .ok (.newarray .int, 2) := by decide +kernel
theorem dX4_init_36 : decode cX4_init 36 = .ok (.putfield 27, 3) := by decide +kernel
theorem dX4_init_39 : decode cX4_init 39 = .ok (.aload_n 0, 1) := by decide +kernel
theorem dX4_init_40 : decode cX4_init 40 = .ok (.new 31, 3) := by decide +kernel
theorem dX4_init_43 : decode cX4_init 43 = .ok (.dup, 1) := by decide +kernel
theorem dX4_init_44 : decode cX4_init 44 = .ok (.invokespecial 33, 3) := by decide +kernel
theorem dX4_init_47 : decode cX4_init 47 = .ok (.putfield 34, 3) := by decide +kernel
theorem dX4_init_50 : decode cX4_init 50 = .ok (.aload_n 0, 1) := by decide +kernel
theorem dX4_init_51 : decode cX4_init 51 = .ok (.new 31, 3) := by decide +kernel
theorem dX4_init_54 : decode cX4_init 54 = .ok (.dup, 1) := by decide +kernel
theorem dX4_init_55 : decode cX4_init 55 = .ok (.invokespecial 33, 3) := by decide +kernel
theorem dX4_init_58 : decode cX4_init 58 = .ok (.putfield 38, 3) := by decide +kernel
theorem dX4_init_61 : decode cX4_init 61 = .ok (.aload_n 0, 1) := by decide +kernel
theorem dX4_init_62 : decode cX4_init 62 = .ok (.new 31, 3) := by decide +kernel
theorem dX4_init_65 : decode cX4_init 65 = .ok (.dup, 1) := by decide +kernel
theorem dX4_init_66 : decode cX4_init 66 = .ok (.invokespecial 33, 3) := by decide +kernel
theorem dX4_init_69 : decode cX4_init 69 = .ok (.putfield 41, 3) := by decide +kernel
theorem dX4_init_72 : decode cX4_init 72 = .ok (.aload_n 0, 1) := by decide +kernel
theorem dX4_init_73 : decode cX4_init 73 = .ok (.bipush 7, 2) := by decide +kernel
theorem dX4_init_75 : decode cX4_init 75 = .ok (.newarray .int, 2) := by decide +kernel
theorem dX4_init_77 : decode cX4_init 77 = .ok (.putfield 44, 3) := by decide +kernel
theorem dX4_init_80 : decode cX4_init 80 = .ok (.aload_n 0, 1) := by decide +kernel
theorem dX4_init_81 : decode cX4_init 81 = .ok (.bipush 7, 2) := by decide +kernel
theorem dX4_init_83 : decode cX4_init 83 = .ok (.newarray .int, 2) := by decide +kernel
theorem dX4_init_85 : decode cX4_init 85 = .ok (.putfield 47, 3) := by decide +kernel
theorem dX4_init_88 : decode cX4_init 88 = .ok (.aload_n 0, 1) := by decide +kernel
theorem dX4_init_89 : decode cX4_init 89 = .ok (.bipush 64, 2) := by decide +kernel
theorem dX4_init_91 : decode cX4_init 91 = .ok (.newarray .int, 2) := by decide +kernel
theorem dX4_init_93 : decode cX4_init 93 = .ok (.putfield 50, 3) := by decide +kernel
theorem dX4_init_96 : decode cX4_init 96 = .ok (.aload_n 0, 1) := by decide +kernel
theorem dX4_init_97 : decode cX4_init 97 = .ok (.bipush 12, 2) := by decide +kernel
theorem dX4_init_99 : decode cX4_init 99 = .ok (.newarray .int, 2) := by decide +kernel
theorem dX4_init_101 : decode cX4_init 101 = .ok (.putfield 53, 3) := by decide +kernel
theorem dX4_init_104 : decode cX4_init 104 = .ok (.iconst 0, 1) := by decide +kernel
theorem dX4_init_105 : decode cX4_init 105 = .ok (.istore_n 1, 1) := by decide +kernel
theorem dX4_init_106 : decode cX4_init 106 = .ok (.iload_n 1, 1) := by decide +kernel
theorem dX4_init_107 : decode cX4_init 107 = .ok (.bipush 10, 2) := by decide +kernel
theorem dX4_init_109 : decode cX4_init 109 = .ok (.if_icmp .ge 22, 3) := by decide +kernel
theorem dX4_init_112 : decode cX4_init 112 = .ok (.aload_n 0, 1) := by decide +kernel
theorem dX4_init_113 : decode cX4_init 113 = .ok (.getfield 23, 3) := by decide +kernel
theorem dX4_init_116 : decode cX4_init 116 = .ok (.iload_n 1, 1) := by decide +kernel
theorem dX4_init_117 : decode cX4_init 117 = .ok (.new 21, 3) := by decide +kernel
theorem dX4_init_120 : decode cX4_init 120 = .ok (.dup, 1) := by decide +kernel
theorem dX4_init_121 : decode cX4_init 121 = .ok (.invokespecial 56, 3) := by decide +kernel
theorem dX4_init_124 : decode cX4_init 124 = .ok (.aastore, 1) := by decide +kernel
theorem dX4_init_125 : decode cX4_init 125 = .ok (.iinc 1 1, 3) := by decide +kernel
theorem dX4_init_128 : decode cX4_init 128 = .ok (.goto (-22), 3) := by decide +kernel
theorem dX4_init_131 : decode cX4_init 131 = .ok (.aload_n 0, 1) := by decide +kernel
theorem dX4_init_132 : decode cX4_init 132 = .ok (.getfield 27, 3) := by decide +kernel
theorem dX4_init_135 : decode cX4_init 135 = .ok (.iconst 3, 1) := by decide +kernel
theorem dX4_init_136 : decode cX4_init 136 = .ok (.invokestatic 57, 3) := by decide +kernel
theorem dX4_init_139 : decode cX4_init 139 = .ok (.aload_n 0, 1) := by decide +kernel
theorem dX4_init_140 : decode cX4_init 140 = .ok (.getfield 27, 3) := by decide +kernel
theorem dX4_init_143 : decode cX4_init 143 = .ok (.bipush 6, 2) := by decide +kernel
theorem dX4_init_145 : decode cX4_init 145 = .ok (.iconst 5, 1) := by decide +kernel
theorem dX4_init_146 : decode cX4_init 146 = .ok (.iastore, 1) := by decide +kernel
theorem dX4_init_147 : decode cX4_init 147 = .ok (.return_, 1) := by decide +kernel
theorem dX4_program_0 : decode cX4_program 0 = .ok (.aload_n 0, 1) := by decide +kernel
theorem dX4_program_1 : decode cX4_program 1 = .ok (.getfield 63, 3) := by decide +kernel
theorem dX4_program_4 : decode cX4_program 4 = .ok (.bipush 10, 2) := by decide +kernel
theorem dX4_program_6 : decode cX4_program 6 = .ok (.if_icmp .lt 6, 3) := by decide +kernel
theorem dX4_program_9 : decode cX4_program 9 = .ok (.bipush (-2), 2) := by decide +kernel
theorem dX4_program_11 : decode cX4_program 11 = .ok (.ireturn, 1) := by decide +kernel
theorem dX4_program_12 : decode cX4_program 12 = .ok (.aload_n 0, 1) := by decide +kernel
theorem dX4_program_13 : decode cX4_program 13 = .ok (.getfield 11, 3) := by decide +kernel
theorem dX4_program_16 : decode cX4_program 16 = .ok (.aload_n 0, 1) := by decide +kernel
theorem dX4_program_17 : decode cX4_program 17 = .ok (.getfield 63, 3) := by decide +kernel
theorem dX4_program_20 : decode cX4_program 20 = .ok (.new 9, 3) := by decide +kernel
theorem dX4_program_23 : decode cX4_program 23 = .ok (.dup, 1) := by decide +kernel
theorem dX4_program_24 : decode cX4_program 24 = .ok (.invokespecial 67, 3) := by decide +kernel
theorem dX4_program_27 : decode cX4_program 27 = .ok (.aastore, 1) := by decide +kernel
theorem dX4_program_28 : decode cX4_program 28 = .ok (.aload_n 0, 1) := by decide +kernel
theorem dX4_program_29 : decode cX4_program 29 = .ok (.dup, 1) := by decide +kernel
theorem dX4_program_30 : decode cX4_program 30 = .ok (.getfield 63, 3) := by decide +kernel
theorem dX4_program_33 : decode cX4_program 33 = .ok (.dup_x1, 1) := by decide +kernel
theorem dX4_program_34 : decode cX4_program 34 = .ok (.iconst 1, 1) := by decide +kernel
theorem dX4_program_35 : decode cX4_program 35 = .ok (.iadd, 1) := by decide +kernel
theorem dX4_program_36 : decode cX4_program 36 = .ok (.putfield 63, 3) := by decide +kernel
theorem dX4_program_39 : decode cX4_program 39 = .ok (.ireturn, 1) := by decide +kernel
theorem dX4_line_0 : decode cX4_line 0 = .ok (.aload_n 0, 1) := by decide +kernel
theorem dX4_line_1 : decode cX4_line 1 = .ok (.iload_n 1, 1) := by decide +kernel
theorem dX4_line_2 : decode cX4_line 2 = .ok (.invokevirtual 68, 3) := by decide +kernel
theorem dX4_line_5 : decode cX4_line 5 = .ok (.astore 5, 2) := by decide +kernel
theorem dX4_line_7 : decode cX4_line 7 = .ok (.aload 5, 2) := by decide +kernel
theorem dX4_line_9 : decode cX4_line 9 = .ok (.ifnull 13, 3) := by decide +kernel
theorem dX4_line_12 : decode cX4_line 12 = .ok (.iload_n 2, 1) := by decide +kernel
theorem dX4_line_13 : decode cX4_line 13 = .ok (.iload_n 3, 1) := by decide +kernel
theorem dX4_line_14 : decode cX4_line 14 = .ok (.iload 4, 2) := by decide +kernel
theorem dX4_line_16 : decode cX4_line 16 = .ok (.invokestatic 72, 3) := by decide +kernel
theorem dX4_line_19 : decode cX4_line 19 = .ok (.ifCond .ne 5, 3) := by decide +kernel
theorem dX4_line_22 : decode cX4_line 22 = .ok (.iconst (-1), 1) := by decide +kernel
theorem dX4_line_23 : decode cX4_line 23 = .ok (.ireturn, 1) := by decide +kernel
theorem dX4_line_24 : decode cX4_line 24 = .ok (.aload 5, 2) := by decide +kernel
theorem dX4_line_26 : decode cX4_line 26 = .ok (.getfield 76, 3) := by decide +kernel
theorem dX4_line_29 : decode cX4_line 29 = .ok (.ifCond .ne 17, 3) := by decide +kernel
theorem dX4_line_32 : decode cX4_line 32 = .ok (.iload_n 2, 1) := by decide +kernel
theorem dX4_line_33 : decode cX4_line 33 = .ok (.bipush 6, 2) := by decide +kernel
theorem dX4_line_35 : decode cX4_line 35 = .ok (.if_icmp .ne 14, 3) := by decide +kernel
theorem dX4_line_38 : decode cX4_line 38 = .ok (.aload 5, 2) := by decide +kernel
theorem dX4_line_40 : decode cX4_line 40 = .ok (.invokevirtual 80, 3) := by decide +kernel
theorem dX4_line_43 : decode cX4_line 43 = .ok (.ifCond .eq 6, 3) := by decide +kernel
theorem dX4_line_46 : decode cX4_line 46 = .ok (.bipush (-3), 2) := by decide +kernel
theorem dX4_line_48 : decode cX4_line 48 = .ok (.ireturn, 1) := by decide +kernel
theorem dX4_line_49 : decode cX4_line 49 = .ok (.aload 5, 2) := by decide +kernel
theorem dX4_line_51 : decode cX4_line 51 = .ok (.getfield 84, 3) := by decide +kernel
theorem dX4_line_54 : decode cX4_line 54 = .ok (.bipush 20, 2) := by decide +kernel
theorem dX4_line_56 : decode cX4_line 56 = .ok (.if_icmp .lt 6, 3) := by decide +kernel
theorem dX4_line_59 : decode cX4_line 59 = .ok (.bipush (-2), 2) := by decide +kernel
theorem dX4_line_61 : decode cX4_line 61 = .ok (.ireturn, 1) := by decide +kernel
theorem dX4_line_62 : decode cX4_line 62 = .ok (.aload_n 0, 1) := by decide +kernel
theorem dX4_line_63 : decode cX4_line 63 = .ok (.dup, 1) := by decide +kernel
theorem dX4_line_64 : decode cX4_line 64 = .ok (.getfield 87, 3) := by decide +kernel
theorem dX4_line_67 : decode cX4_line 67 = .ok (.iconst 1, 1) := by decide +kernel
theorem dX4_line_68 : decode cX4_line 68 = .ok (.iadd, 1) := by decide +kernel
theorem dX4_line_69 : decode cX4_line 69 = .ok (.putfield 87, 3) := by decide +kernel
theorem dX4_line_72 : decode cX4_line 72 = .ok (.aload 5, 2) := by decide +kernel
theorem dX4_line_74 : decode cX4_line 74 = .ok (.iload_n 2, 1) := by decide +kernel
theorem dX4_line_75 : decode cX4_line 75 = .ok (.iload_n 3, 1) := by decide +kernel
theorem dX4_line_76 : decode cX4_line 76 = .ok (.iload 4, 2) := by decide +kernel
theorem dX4_line_78 : decode cX4_line 78 = .ok (.invokevirtual 90, 3) := by decide +kernel
theorem dX4_line_81 : decode cX4_line 81 = .ok (.ireturn, 1) := by decide +kernel
theorem dX4_about_0 : decode cX4_about 0 = .ok (.aload_n 0, 1) := by decide +kernel
theorem dX4_about_1 : decode cX4_about 1 = .ok (.iload_n 1, 1) := by decide +kernel
theorem dX4_about_2 : decode cX4_about 2 = .ok (.invokevirtual 68, 3) := by decide +kernel
theorem dX4_about_5 : decode cX4_about 5 = .ok (.astore 4, 2) := by decide +kernel
theorem dX4_about_7 : decode cX4_about 7 = .ok (.aload 4, 2) := by decide +kernel
theorem dX4_about_9 : decode cX4_about 9 = .ok (.ifnull 12, 3) := by decide +kernel
theorem dX4_about_12 : decode cX4_about 12 = .ok (.aload 4, 2) := by decide +kernel
theorem dX4_about_14 : decode cX4_about 14 = .ok (.iload_n 2, 1) := by decide +kernel
theorem dX4_about_15 : decode cX4_about 15 = .ok (.invokevirtual 94, 3) := by decide +kernel
theorem dX4_about_18 : decode cX4_about 18 = .ok (.ifCond .ne 6, 3) := by decide +kernel
theorem dX4_about_21 : decode cX4_about 21 = .ok (.ldc 98, 2) := by decide +kernel
theorem dX4_about_23 : decode cX4_about 23 = .ok (.ireturn, 1) := by decide +kernel
theorem dX4_about_24 : decode cX4_about 24 = .ok (.iload_n 3, 1) := by decide +kernel
theorem dX4_about_25 : decode cX4_about 25 = .ok (.tableswitch 63 0 3 #[31, 39, 47, 55], 31) := by decide +kernel
theorem dX4_about_56 : decode cX4_about 56 = .ok (.aload 4, 2) := by decide +kernel
theorem dX4_about_58 : decode cX4_about 58 = .ok (.getfield 99, 3) := by decide +kernel
theorem dX4_about_61 : decode cX4_about 61 = .ok (.iload_n 2, 1) := by decide +kernel
theorem dX4_about_62 : decode cX4_about 62 = .ok (.iaload, 1) := by decide +kernel
theorem dX4_about_63 : decode cX4_about 63 = .ok (.ireturn, 1) := by decide +kernel
theorem dX4_about_64 : decode cX4_about 64 = .ok (.aload 4, 2) := by decide +kernel
theorem dX4_about_66 : decode cX4_about 66 = .ok (.getfield 102, 3) := by decide +kernel
theorem dX4_about_69 : decode cX4_about 69 = .ok (.iload_n 2, 1) := by decide +kernel
theorem dX4_about_70 : decode cX4_about 70 = .ok (.iaload, 1) := by decide +kernel
theorem dX4_about_71 : decode cX4_about 71 = .ok (.ireturn, 1) := by decide +kernel
theorem dX4_about_72 : decode cX4_about 72 = .ok (.aload 4, 2) := by decide +kernel
theorem dX4_about_74 : decode cX4_about 74 = .ok (.getfield 105, 3) := by decide +kernel
theorem dX4_about_77 : decode cX4_about 77 = .ok (.iload_n 2, 1) := by decide +kernel
theorem dX4_about_78 : decode cX4_about 78 = .ok (.iaload, 1) := by decide +kernel
theorem dX4_about_79 : decode cX4_about 79 = .ok (.ireturn, 1) := by decide +kernel
theorem dX4_about_80 : decode cX4_about 80 = .ok (.aload 4, 2) := by decide +kernel
theorem dX4_about_82 : decode cX4_about 82 = .ok (.getfield 108, 3) := by decide +kernel
theorem dX4_about_85 : decode cX4_about 85 = .ok (.iload_n 2, 1) := by decide +kernel
theorem dX4_about_86 : decode cX4_about 86 = .ok (.iaload, 1) := by decide +kernel
theorem dX4_about_87 : decode cX4_about 87 = .ok (.ireturn, 1) := by decide +kernel
theorem dX4_about_88 : decode cX4_about 88 = .ok (.ldc 98, 2) := by decide +kernel
theorem dX4_about_90 : decode cX4_about 90 = .ok (.ireturn, 1) := by decide +kernel
theorem dX4_whole_0 : decode cX4_whole 0 = .ok (.aload_n 0, 1) := by decide +kernel
theorem dX4_whole_1 : decode cX4_whole 1 = .ok (.iload_n 1, 1) := by decide +kernel
theorem dX4_whole_2 : decode cX4_whole 2 = .ok (.invokevirtual 68, 3) := by decide +kernel
theorem dX4_whole_5 : decode cX4_whole 5 = .ok (.astore_n 2, 1) := by decide +kernel
theorem dX4_whole_6 : decode cX4_whole 6 = .ok (.aload_n 2, 1) := by decide +kernel
theorem dX4_whole_7 : decode cX4_whole 7 = .ok (.ifnonnull 5, 3) := by decide +kernel
theorem dX4_whole_10 : decode cX4_whole 10 = .ok (.iconst (-1), 1) := by decide +kernel
theorem dX4_whole_11 : decode cX4_whole 11 = .ok (.ireturn, 1) := by decide +kernel
theorem dX4_whole_12 : decode cX4_whole 12 = .ok (.aload_n 2, 1) := by decide +kernel
theorem dX4_whole_13 : decode cX4_whole 13 = .ok (.invokevirtual 80, 3) := by decide +kernel
theorem dX4_whole_16 : decode cX4_whole 16 = .ok (.ifCond .eq 7, 3) := by decide +kernel
theorem dX4_whole_19 : decode cX4_whole 19 = .ok (.iconst 1, 1) := by decide +kernel
theorem dX4_whole_20 : decode cX4_whole 20 = .ok (.goto 4, 3) := by decide +kernel
theorem dX4_whole_23 : decode cX4_whole 23 = .ok (.iconst 0, 1) := by decide +kernel
theorem dX4_whole_24 : decode cX4_whole 24 = .ok (.ireturn, 1) := by decide +kernel
theorem dX4_run_0 : decode cX4_run 0 = .ok (.aload_n 0, 1) := by decide +kernel
theorem dX4_run_1 : decode cX4_run 1 = .ok (.iload_n 1, 1) := by decide +kernel
theorem dX4_run_2 : decode cX4_run 2 = .ok (.invokevirtual 68, 3) := by decide +kernel
theorem dX4_run_5 : decode cX4_run 5 = .ok (.astore 4, 2) := by decide +kernel
theorem dX4_run_7 : decode cX4_run 7 = .ok (.aload 4, 2) := by decide +kernel
theorem dX4_run_9 : decode cX4_run 9 = .ok (.ifnull 17, 3) := by decide +kernel
theorem dX4_run_12 : decode cX4_run 12 = .ok (.iload_n 2, 1) := by decide +kernel
theorem dX4_run_13 : decode cX4_run 13 = .ok (.invokestatic 111, 3) := by decide +kernel
theorem dX4_run_16 : decode cX4_run 16 = .ok (.ifCond .eq 10, 3) := by decide +kernel
theorem dX4_run_19 : decode cX4_run 19 = .ok (.iload_n 3, 1) := by decide +kernel
theorem dX4_run_20 : decode cX4_run 20 = .ok (.invokestatic 114, 3) := by decide +kernel
theorem dX4_run_23 : decode cX4_run 23 = .ok (.ifCond .ne 5, 3) := by decide +kernel
theorem dX4_run_26 : decode cX4_run 26 = .ok (.iconst (-1), 1) := by decide +kernel
theorem dX4_run_27 : decode cX4_run 27 = .ok (.ireturn, 1) := by decide +kernel
theorem dX4_run_28 : decode cX4_run 28 = .ok (.aload 4, 2) := by decide +kernel
theorem dX4_run_30 : decode cX4_run 30 = .ok (.invokevirtual 80, 3) := by decide +kernel
theorem dX4_run_33 : decode cX4_run 33 = .ok (.ifCond .ne 6, 3) := by decide +kernel
theorem dX4_run_36 : decode cX4_run 36 = .ok (.bipush (-3), 2) := by decide +kernel
theorem dX4_run_38 : decode cX4_run 38 = .ok (.ireturn, 1) := by decide +kernel
theorem dX4_run_39 : decode cX4_run 39 = .ok (.aload_n 0, 1) := by decide +kernel
theorem dX4_run_40 : decode cX4_run 40 = .ok (.getfield 34, 3) := by decide +kernel
theorem dX4_run_43 : decode cX4_run 43 = .ok (.aload 4, 2) := by decide +kernel
theorem dX4_run_45 : decode cX4_run 45 = .ok (.iload_n 2, 1) := by decide +kernel
theorem dX4_run_46 : decode cX4_run 46 = .ok (.iload_n 3, 1) := by decide +kernel
theorem dX4_run_47 : decode cX4_run 47 = .ok (.invokevirtual 117, 3) := by decide +kernel
theorem dX4_run_50 : decode cX4_run 50 = .ok (.aload_n 0, 1) := by decide +kernel
theorem dX4_run_51 : decode cX4_run 51 = .ok (.iconst 1, 1) := by decide +kernel
theorem dX4_run_52 : decode cX4_run 52 = .ok (.putfield 121, 3) := by decide +kernel
theorem dX4_run_55 : decode cX4_run 55 = .ok (.aload_n 0, 1) := by decide +kernel
theorem dX4_run_56 : decode cX4_run 56 = .ok (.getfield 34, 3) := by decide +kernel
theorem dX4_run_59 : decode cX4_run 59 = .ok (.getfield 124, 3) := by decide +kernel
theorem dX4_run_62 : decode cX4_run 62 = .ok (.ireturn, 1) := by decide +kernel
theorem dX4_told_0 : decode cX4_told 0 = .ok (.aload_n 0, 1) := by decide +kernel
theorem dX4_told_1 : decode cX4_told 1 = .ok (.getfield 121, 3) := by decide +kernel
theorem dX4_told_4 : decode cX4_told 4 = .ok (.ifCond .eq 7, 3) := by decide +kernel
theorem dX4_told_7 : decode cX4_told 7 = .ok (.iload_n 1, 1) := by decide +kernel
theorem dX4_told_8 : decode cX4_told 8 = .ok (.ifCond .ge 6, 3) := by decide +kernel
theorem dX4_told_11 : decode cX4_told 11 = .ok (.ldc 98, 2) := by decide +kernel
theorem dX4_told_13 : decode cX4_told 13 = .ok (.ireturn, 1) := by decide +kernel
theorem dX4_told_14 : decode cX4_told 14 = .ok (.iload_n 1, 1) := by decide +kernel
theorem dX4_told_15 : decode cX4_told 15 = .ok (.iconst 4, 1) := by decide +kernel
theorem dX4_told_16 : decode cX4_told 16 = .ok (.if_icmp .ge 13, 3) := by decide +kernel
theorem dX4_told_19 : decode cX4_told 19 = .ok (.aload_n 0, 1) := by decide +kernel
theorem dX4_told_20 : decode cX4_told 20 = .ok (.getfield 34, 3) := by decide +kernel
theorem dX4_told_23 : decode cX4_told 23 = .ok (.getfield 127, 3) := by decide +kernel
theorem dX4_told_26 : decode cX4_told 26 = .ok (.iload_n 1, 1) := by decide +kernel
theorem dX4_told_27 : decode cX4_told 27 = .ok (.iaload, 1) := by decide +kernel
theorem dX4_told_28 : decode cX4_told 28 = .ok (.ireturn, 1) := by decide +kernel
theorem dX4_told_29 : decode cX4_told 29 = .ok (.iload_n 1, 1) := by decide +kernel
theorem dX4_told_30 : decode cX4_told 30 = .ok (.bipush 12, 2) := by decide +kernel
theorem dX4_told_32 : decode cX4_told 32 = .ok (.if_icmp .ge 14, 3) := by decide +kernel
theorem dX4_told_35 : decode cX4_told 35 = .ok (.aload_n 0, 1) := by decide +kernel
theorem dX4_told_36 : decode cX4_told 36 = .ok (.getfield 34, 3) := by decide +kernel
theorem dX4_told_39 : decode cX4_told 39 = .ok (.iload_n 1, 1) := by decide +kernel
theorem dX4_told_40 : decode cX4_told 40 = .ok (.iconst 4, 1) := by decide +kernel
theorem dX4_told_41 : decode cX4_told 41 = .ok (.isub, 1) := by decide +kernel
theorem dX4_told_42 : decode cX4_told 42 = .ok (.invokevirtual 130, 3) := by decide +kernel
theorem dX4_told_45 : decode cX4_told 45 = .ok (.ireturn, 1) := by decide +kernel
theorem dX4_told_46 : decode cX4_told 46 = .ok (.iload_n 1, 1) := by decide +kernel
theorem dX4_told_47 : decode cX4_told 47 = .ok (.bipush 12, 2) := by decide +kernel
theorem dX4_told_49 : decode cX4_told 49 = .ok (.if_icmp .ne 19, 3) := by decide +kernel
theorem dX4_told_52 : decode cX4_told 52 = .ok (.aload_n 0, 1) := by decide +kernel
theorem dX4_told_53 : decode cX4_told 53 = .ok (.getfield 34, 3) := by decide +kernel
theorem dX4_told_56 : decode cX4_told 56 = .ok (.getfield 134, 3) := by decide +kernel
theorem dX4_told_59 : decode cX4_told 59 = .ok (.ifCond .eq 7, 3) := by decide +kernel
theorem dX4_told_62 : decode cX4_told 62 = .ok (.iconst 1, 1) := by decide +kernel
theorem dX4_told_63 : decode cX4_told 63 = .ok (.goto 4, 3) := by decide +kernel
theorem dX4_told_66 : decode cX4_told 66 = .ok (.iconst 0, 1) := by decide +kernel
theorem dX4_told_67 : decode cX4_told 67 = .ok (.ireturn, 1) := by decide +kernel
theorem dX4_told_68 : decode cX4_told 68 = .ok (.iload_n 1, 1) := by decide +kernel
theorem dX4_told_69 : decode cX4_told 69 = .ok (.bipush 13, 2) := by decide +kernel
theorem dX4_told_71 : decode cX4_told 71 = .ok (.if_icmp .ne 19, 3) := by decide +kernel
theorem dX4_told_74 : decode cX4_told 74 = .ok (.aload_n 0, 1) := by decide +kernel
theorem dX4_told_75 : decode cX4_told 75 = .ok (.getfield 34, 3) := by decide +kernel
theorem dX4_told_78 : decode cX4_told 78 = .ok (.invokevirtual 137, 3) := by decide +kernel
theorem dX4_told_81 : decode cX4_told 81 = .ok (.ifCond .eq 7, 3) := by decide +kernel
theorem dX4_told_84 : decode cX4_told 84 = .ok (.iconst 1, 1) := by decide +kernel
theorem dX4_told_85 : decode cX4_told 85 = .ok (.goto 4, 3) := by decide +kernel
theorem dX4_told_88 : decode cX4_told 88 = .ok (.iconst 0, 1) := by decide +kernel
theorem dX4_told_89 : decode cX4_told 89 = .ok (.ireturn, 1) := by decide +kernel
theorem dX4_told_90 : decode cX4_told 90 = .ok (.ldc 98, 2) := by decide +kernel
theorem dX4_told_92 : decode cX4_told 92 = .ok (.ireturn, 1) := by decide +kernel
theorem dX4_done_0 : decode cX4_done 0 = .ok (.iload_n 1, 1) := by decide +kernel
theorem dX4_done_1 : decode cX4_done 1 = .ok (.ifCond .lt 14, 3) := by decide +kernel
theorem dX4_done_4 : decode cX4_done 4 = .ok (.iload_n 1, 1) := by decide +kernel
theorem dX4_done_5 : decode cX4_done 5 = .ok (.aload_n 0, 1) := by decide +kernel
theorem dX4_done_6 : decode cX4_done 6 = .ok (.getfield 34, 3) := by decide +kernel
theorem dX4_done_9 : decode cX4_done 9 = .ok (.getfield 140, 3) := by decide +kernel
theorem dX4_done_12 : decode cX4_done 12 = .ok (.if_icmp .lt 5, 3) := by decide +kernel
theorem dX4_done_15 : decode cX4_done 15 = .ok (.iconst (-1), 1) := by decide +kernel
theorem dX4_done_16 : decode cX4_done 16 = .ok (.ireturn, 1) := by decide +kernel
theorem dX4_done_17 : decode cX4_done 17 = .ok (.aload_n 0, 1) := by decide +kernel
theorem dX4_done_18 : decode cX4_done 18 = .ok (.getfield 34, 3) := by decide +kernel
theorem dX4_done_21 : decode cX4_done 21 = .ok (.getfield 143, 3) := by decide +kernel
theorem dX4_done_24 : decode cX4_done 24 = .ok (.iload_n 1, 1) := by decide +kernel
theorem dX4_done_25 : decode cX4_done 25 = .ok (.iaload, 1) := by decide +kernel
theorem dX4_done_26 : decode cX4_done 26 = .ok (.ireturn, 1) := by decide +kernel
theorem dX4_question_0 : decode cX4_question 0 = .ok (.aload_n 0, 1) := by decide +kernel
theorem dX4_question_1 : decode cX4_question 1 = .ok (.iload_n 1, 1) := by decide +kernel
theorem dX4_question_2 : decode cX4_question 2 = .ok (.invokevirtual 68, 3) := by decide +kernel
theorem dX4_question_5 : decode cX4_question 5 = .ok (.astore 5, 2) := by decide +kernel
theorem dX4_question_7 : decode cX4_question 7 = .ok (.aload 5, 2) := by decide +kernel
theorem dX4_question_9 : decode cX4_question 9 = .ok (.ifnull 21, 3) := by decide +kernel
theorem dX4_question_12 : decode cX4_question 12 = .ok (.iload_n 2, 1) := by decide +kernel
theorem dX4_question_13 : decode cX4_question 13 = .ok (.invokestatic 111, 3) := by decide +kernel
theorem dX4_question_16 : decode cX4_question 16 = .ok (.ifCond .eq 14, 3) := by decide +kernel
theorem dX4_question_19 : decode cX4_question 19 = .ok (.aload 5, 2) := by decide +kernel
theorem dX4_question_21 : decode cX4_question 21 = .ok (.iload_n 3, 1) := by decide +kernel
theorem dX4_question_22 : decode cX4_question 22 = .ok (.iload 4, 2) := by decide +kernel
theorem dX4_question_24 : decode cX4_question 24 = .ok (.invokestatic 146, 3) := by decide +kernel
theorem dX4_question_27 : decode cX4_question 27 = .ok (.ifCond .ne 5, 3) := by decide +kernel
theorem dX4_question_30 : decode cX4_question 30 = .ok (.iconst (-1), 1) := by decide +kernel
theorem dX4_question_31 : decode cX4_question 31 = .ok (.ireturn, 1) := by decide +kernel
theorem dX4_question_32 : decode cX4_question 32 = .ok (.aload 5, 2) := by decide +kernel
theorem dX4_question_34 : decode cX4_question 34 = .ok (.invokevirtual 80, 3) := by decide +kernel
theorem dX4_question_37 : decode cX4_question 37 = .ok (.ifCond .ne 6, 3) := by decide +kernel
theorem dX4_question_40 : decode cX4_question 40 = .ok (.bipush (-3), 2) := by decide +kernel
theorem dX4_question_42 : decode cX4_question 42 = .ok (.ireturn, 1) := by decide +kernel
theorem dX4_question_43 : decode cX4_question 43 = .ok (.aload_n 0, 1) := by decide +kernel
theorem dX4_question_44 : decode cX4_question 44 = .ok (.getfield 38, 3) := by decide +kernel
theorem dX4_question_47 : decode cX4_question 47 = .ok (.aload 5, 2) := by decide +kernel
theorem dX4_question_49 : decode cX4_question 49 = .ok (.iload_n 2, 1) := by decide +kernel
theorem dX4_question_50 : decode cX4_question 50 = .ok (.iconst 0, 1) := by decide +kernel
theorem dX4_question_51 : decode cX4_question 51 = .ok (.invokevirtual 117, 3) := by decide +kernel
theorem dX4_question_54 : decode cX4_question 54 = .ok (.aload_n 0, 1) := by decide +kernel
theorem dX4_question_55 : decode cX4_question 55 = .ok (.getfield 38, 3) := by decide +kernel
theorem dX4_question_58 : decode cX4_question 58 = .ok (.getfield 134, 3) := by decide +kernel
theorem dX4_question_61 : decode cX4_question 61 = .ok (.ifCond .eq 6, 3) := by decide +kernel
theorem dX4_question_64 : decode cX4_question 64 = .ok (.bipush (-3), 2) := by decide +kernel
theorem dX4_question_66 : decode cX4_question 66 = .ok (.ireturn, 1) := by decide +kernel
theorem dX4_question_67 : decode cX4_question 67 = .ok (.aload_n 0, 1) := by decide +kernel
theorem dX4_question_68 : decode cX4_question 68 = .ok (.getfield 150, 3) := by decide +kernel
theorem dX4_question_71 : decode cX4_question 71 = .ok (.bipush 60, 2) := by decide +kernel
theorem dX4_question_73 : decode cX4_question 73 = .ok (.if_icmp .lt 6, 3) := by decide +kernel
theorem dX4_question_76 : decode cX4_question 76 = .ok (.bipush (-2), 2) := by decide +kernel
theorem dX4_question_78 : decode cX4_question 78 = .ok (.ireturn, 1) := by decide +kernel
theorem dX4_question_79 : decode cX4_question 79 = .ok (.aload 5, 2) := by decide +kernel
theorem dX4_question_81 : decode cX4_question 81 = .ok (.iconst 1, 1) := by decide +kernel
theorem dX4_question_82 : decode cX4_question 82 = .ok (.putfield 76, 3) := by decide +kernel
theorem dX4_question_85 : decode cX4_question 85 = .ok (.aload_n 0, 1) := by decide +kernel
theorem dX4_question_86 : decode cX4_question 86 = .ok (.getfield 17, 3) := by decide +kernel
theorem dX4_question_89 : decode cX4_question 89 = .ok (.aload_n 0, 1) := by decide +kernel
theorem dX4_question_90 : decode cX4_question 90 = .ok (.getfield 150, 3) := by decide +kernel
theorem dX4_question_93 : decode cX4_question 93 = .ok (.new 15, 3) := by decide +kernel
theorem dX4_question_96 : decode cX4_question 96 = .ok (.dup, 1) := by decide +kernel
theorem dX4_question_97 : decode cX4_question 97 = .ok (.aload 5, 2) := by decide +kernel
theorem dX4_question_99 : decode cX4_question 99 = .ok (.iload_n 2, 1) := by decide +kernel
theorem dX4_question_100 : decode cX4_question 100 = .ok (.iload_n 3, 1) := by decide +kernel
theorem dX4_question_101 : decode cX4_question 101 = .ok (.iload 4, 2) := by decide +kernel
theorem dX4_question_103 : decode cX4_question 103 = .ok (.invokespecial 153, 3) := by decide +kernel
theorem dX4_question_106 : decode cX4_question 106 = .ok (.aastore, 1) := by decide +kernel
theorem dX4_question_107 : decode cX4_question 107 = .ok (.aload_n 0, 1) := by decide +kernel
theorem dX4_question_108 : decode cX4_question 108 = .ok (.dup, 1) := by decide +kernel
theorem dX4_question_109 : decode cX4_question 109 = .ok (.getfield 150, 3) := by decide +kernel
theorem dX4_question_112 : decode cX4_question 112 = .ok (.dup_x1, 1) := by decide +kernel
theorem dX4_question_113 : decode cX4_question 113 = .ok (.iconst 1, 1) := by decide +kernel
theorem dX4_question_114 : decode cX4_question 114 = .ok (.iadd, 1) := by decide +kernel
theorem dX4_question_115 : decode cX4_question 115 = .ok (.putfield 150, 3) := by decide +kernel
theorem dX4_question_118 : decode cX4_question 118 = .ok (.ireturn, 1) := by decide +kernel
theorem dX4_answer_0 : decode cX4_answer 0 = .ok (.aload_n 0, 1) := by decide +kernel
theorem dX4_answer_1 : decode cX4_answer 1 = .ok (.iload_n 1, 1) := by decide +kernel
theorem dX4_answer_2 : decode cX4_answer 2 = .ok (.invokevirtual 156, 3) := by decide +kernel
theorem dX4_answer_5 : decode cX4_answer 5 = .ok (.astore_n 3, 1) := by decide +kernel
theorem dX4_answer_6 : decode cX4_answer 6 = .ok (.aload_n 3, 1) := by decide +kernel
theorem dX4_answer_7 : decode cX4_answer 7 = .ok (.ifnull 10, 3) := by decide +kernel
theorem dX4_answer_10 : decode cX4_answer 10 = .ok (.iload_n 2, 1) := by decide +kernel
theorem dX4_answer_11 : decode cX4_answer 11 = .ok (.invokestatic 114, 3) := by decide +kernel
theorem dX4_answer_14 : decode cX4_answer 14 = .ok (.ifCond .ne 6, 3) := by decide +kernel
theorem dX4_answer_17 : decode cX4_answer 17 = .ok (.ldc 98, 2) := by decide +kernel
theorem dX4_answer_19 : decode cX4_answer 19 = .ok (.ireturn, 1) := by decide +kernel
theorem dX4_answer_20 : decode cX4_answer 20 = .ok (.aload_n 0, 1) := by decide +kernel
theorem dX4_answer_21 : decode cX4_answer 21 = .ok (.aload_n 3, 1) := by decide +kernel
theorem dX4_answer_22 : decode cX4_answer 22 = .ok (.iload_n 2, 1) := by decide +kernel
theorem dX4_answer_23 : decode cX4_answer 23 = .ok (.invokevirtual 160, 3) := by decide +kernel
theorem dX4_answer_26 : decode cX4_answer 26 = .ok (.ireturn, 1) := by decide +kernel
theorem dX4_choices_0 : decode cX4_choices 0 = .ok (.aload_n 0, 1) := by decide +kernel
theorem dX4_choices_1 : decode cX4_choices 1 = .ok (.iload_n 1, 1) := by decide +kernel
theorem dX4_choices_2 : decode cX4_choices 2 = .ok (.invokevirtual 156, 3) := by decide +kernel
theorem dX4_choices_5 : decode cX4_choices 5 = .ok (.astore_n 3, 1) := by decide +kernel
theorem dX4_choices_6 : decode cX4_choices 6 = .ok (.aload_n 3, 1) := by decide +kernel
theorem dX4_choices_7 : decode cX4_choices 7 = .ok (.ifnull 14, 3) := by decide +kernel
theorem dX4_choices_10 : decode cX4_choices 10 = .ok (.iload_n 2, 1) := by decide +kernel
theorem dX4_choices_11 : decode cX4_choices 11 = .ok (.iconst 2, 1) := by decide +kernel
theorem dX4_choices_12 : decode cX4_choices 12 = .ok (.if_icmp .lt 9, 3) := by decide +kernel
theorem dX4_choices_15 : decode cX4_choices 15 = .ok (.iload_n 2, 1) := by decide +kernel
theorem dX4_choices_16 : decode cX4_choices 16 = .ok (.bipush 6, 2) := by decide +kernel
theorem dX4_choices_18 : decode cX4_choices 18 = .ok (.if_icmp .le 5, 3) := by decide +kernel
theorem dX4_choices_21 : decode cX4_choices 21 = .ok (.iconst (-1), 1) := by decide +kernel
theorem dX4_choices_22 : decode cX4_choices 22 = .ok (.ireturn, 1) := by decide +kernel
theorem dX4_choices_23 : decode cX4_choices 23 = .ok (.aload_n 0, 1) := by decide +kernel
theorem dX4_choices_24 : decode cX4_choices 24 = .ok (.aload_n 3, 1) := by decide +kernel
theorem dX4_choices_25 : decode cX4_choices 25 = .ok (.invokevirtual 164, 3) := by decide +kernel
theorem dX4_choices_28 : decode cX4_choices 28 = .ok (.iload_n 2, 1) := by decide +kernel
theorem dX4_choices_29 : decode cX4_choices 29 = .ok (.if_icmp .ge 6, 3) := by decide +kernel
theorem dX4_choices_32 : decode cX4_choices 32 = .ok (.bipush (-3), 2) := by decide +kernel
theorem dX4_choices_34 : decode cX4_choices 34 = .ok (.ireturn, 1) := by decide +kernel
theorem dX4_choices_35 : decode cX4_choices 35 = .ok (.aload_n 0, 1) := by decide +kernel
theorem dX4_choices_36 : decode cX4_choices 36 = .ok (.iload_n 1, 1) := by decide +kernel
theorem dX4_choices_37 : decode cX4_choices 37 = .ok (.putfield 168, 3) := by decide +kernel
theorem dX4_choices_40 : decode cX4_choices 40 = .ok (.aload_n 0, 1) := by decide +kernel
theorem dX4_choices_41 : decode cX4_choices 41 = .ok (.iload_n 2, 1) := by decide +kernel
theorem dX4_choices_42 : decode cX4_choices 42 = .ok (.putfield 171, 3) := by decide +kernel
theorem dX4_choices_45 : decode cX4_choices 45 = .ok (.iload_n 2, 1) := by decide +kernel
theorem dX4_choices_46 : decode cX4_choices 46 = .ok (.ireturn, 1) := by decide +kernel
theorem dX4_choice_0 : decode cX4_choice 0 = .ok (.aload_n 0, 1) := by decide +kernel
theorem dX4_choice_1 : decode cX4_choice 1 = .ok (.aload_n 0, 1) := by decide +kernel
theorem dX4_choice_2 : decode cX4_choice 2 = .ok (.getfield 168, 3) := by decide +kernel
theorem dX4_choice_5 : decode cX4_choice 5 = .ok (.invokevirtual 156, 3) := by decide +kernel
theorem dX4_choice_8 : decode cX4_choice 8 = .ok (.astore_n 3, 1) := by decide +kernel
theorem dX4_choice_9 : decode cX4_choice 9 = .ok (.aload_n 3, 1) := by decide +kernel
theorem dX4_choice_10 : decode cX4_choice 10 = .ok (.ifnull 15, 3) := by decide +kernel
theorem dX4_choice_13 : decode cX4_choice 13 = .ok (.iload_n 1, 1) := by decide +kernel
theorem dX4_choice_14 : decode cX4_choice 14 = .ok (.ifCond .lt 11, 3) := by decide +kernel
theorem dX4_choice_17 : decode cX4_choice 17 = .ok (.iload_n 1, 1) := by decide +kernel
theorem dX4_choice_18 : decode cX4_choice 18 = .ok (.aload_n 0, 1) := by decide +kernel
theorem dX4_choice_19 : decode cX4_choice 19 = .ok (.getfield 171, 3) := by decide +kernel
theorem dX4_choice_22 : decode cX4_choice 22 = .ok (.if_icmp .lt 6, 3) := by decide +kernel
theorem dX4_choice_25 : decode cX4_choice 25 = .ok (.ldc 98, 2) := by decide +kernel
theorem dX4_choice_27 : decode cX4_choice 27 = .ok (.ireturn, 1) := by decide +kernel
theorem dX4_choice_28 : decode cX4_choice 28 = .ok (.aload_n 0, 1) := by decide +kernel
theorem dX4_choice_29 : decode cX4_choice 29 = .ok (.aload_n 3, 1) := by decide +kernel
theorem dX4_choice_30 : decode cX4_choice 30 = .ok (.invokevirtual 164, 3) := by decide +kernel
theorem dX4_choice_33 : decode cX4_choice 33 = .ok (.pop, 1) := by decide +kernel
theorem dX4_choice_34 : decode cX4_choice 34 = .ok (.iload_n 2, 1) := by decide +kernel
theorem dX4_choice_35 : decode cX4_choice 35 = .ok (.lookupswitch 39 #[(0, 25), (1, 32)], 25) := by decide +kernel
theorem dX4_choice_60 : decode cX4_choice 60 = .ok (.aload_n 0, 1) := by decide +kernel
theorem dX4_choice_61 : decode cX4_choice 61 = .ok (.getfield 44, 3) := by decide +kernel
theorem dX4_choice_64 : decode cX4_choice 64 = .ok (.iload_n 1, 1) := by decide +kernel
theorem dX4_choice_65 : decode cX4_choice 65 = .ok (.iaload, 1) := by decide +kernel
theorem dX4_choice_66 : decode cX4_choice 66 = .ok (.ireturn, 1) := by decide +kernel
theorem dX4_choice_67 : decode cX4_choice 67 = .ok (.aload_n 0, 1) := by decide +kernel
theorem dX4_choice_68 : decode cX4_choice 68 = .ok (.getfield 47, 3) := by decide +kernel
theorem dX4_choice_71 : decode cX4_choice 71 = .ok (.iload_n 1, 1) := by decide +kernel
theorem dX4_choice_72 : decode cX4_choice 72 = .ok (.iaload, 1) := by decide +kernel
theorem dX4_choice_73 : decode cX4_choice 73 = .ok (.ireturn, 1) := by decide +kernel
theorem dX4_choice_74 : decode cX4_choice 74 = .ok (.ldc 98, 2) := by decide +kernel
theorem dX4_choice_76 : decode cX4_choice 76 = .ok (.ireturn, 1) := by decide +kernel
theorem dX4_gap_0 : decode cX4_gap 0 = .ok (.aload_n 0, 1) := by decide +kernel
theorem dX4_gap_1 : decode cX4_gap 1 = .ok (.iload_n 1, 1) := by decide +kernel
theorem dX4_gap_2 : decode cX4_gap 2 = .ok (.invokevirtual 68, 3) := by decide +kernel
theorem dX4_gap_5 : decode cX4_gap 5 = .ok (.astore_n 3, 1) := by decide +kernel
theorem dX4_gap_6 : decode cX4_gap 6 = .ok (.aload_n 3, 1) := by decide +kernel
theorem dX4_gap_7 : decode cX4_gap 7 = .ok (.ifnull 11, 3) := by decide +kernel
theorem dX4_gap_10 : decode cX4_gap 10 = .ok (.aload_n 3, 1) := by decide +kernel
theorem dX4_gap_11 : decode cX4_gap 11 = .ok (.iload_n 2, 1) := by decide +kernel
theorem dX4_gap_12 : decode cX4_gap 12 = .ok (.invokevirtual 94, 3) := by decide +kernel
theorem dX4_gap_15 : decode cX4_gap 15 = .ok (.ifCond .ne 5, 3) := by decide +kernel
theorem dX4_gap_18 : decode cX4_gap 18 = .ok (.iconst (-1), 1) := by decide +kernel
theorem dX4_gap_19 : decode cX4_gap 19 = .ok (.ireturn, 1) := by decide +kernel
theorem dX4_gap_20 : decode cX4_gap 20 = .ok (.aload_n 3, 1) := by decide +kernel
theorem dX4_gap_21 : decode cX4_gap 21 = .ok (.invokevirtual 80, 3) := by decide +kernel
theorem dX4_gap_24 : decode cX4_gap 24 = .ok (.ifCond .eq 12, 3) := by decide +kernel
theorem dX4_gap_27 : decode cX4_gap 27 = .ok (.aload_n 3, 1) := by decide +kernel
theorem dX4_gap_28 : decode cX4_gap 28 = .ok (.getfield 99, 3) := by decide +kernel
theorem dX4_gap_31 : decode cX4_gap 31 = .ok (.iload_n 2, 1) := by decide +kernel
theorem dX4_gap_32 : decode cX4_gap 32 = .ok (.iaload, 1) := by decide +kernel
theorem dX4_gap_33 : decode cX4_gap 33 = .ok (.ifCond .eq 6, 3) := by decide +kernel
theorem dX4_gap_36 : decode cX4_gap 36 = .ok (.bipush (-3), 2) := by decide +kernel
theorem dX4_gap_38 : decode cX4_gap 38 = .ok (.ireturn, 1) := by decide +kernel
theorem dX4_gap_39 : decode cX4_gap 39 = .ok (.aload_n 0, 1) := by decide +kernel
theorem dX4_gap_40 : decode cX4_gap 40 = .ok (.aload_n 0, 1) := by decide +kernel
theorem dX4_gap_41 : decode cX4_gap 41 = .ok (.aload_n 3, 1) := by decide +kernel
theorem dX4_gap_42 : decode cX4_gap 42 = .ok (.iload_n 2, 1) := by decide +kernel
theorem dX4_gap_43 : decode cX4_gap 43 = .ok (.invokevirtual 174, 3) := by decide +kernel
theorem dX4_gap_46 : decode cX4_gap 46 = .ok (.putfield 178, 3) := by decide +kernel
theorem dX4_gap_49 : decode cX4_gap 49 = .ok (.aload_n 0, 1) := by decide +kernel
theorem dX4_gap_50 : decode cX4_gap 50 = .ok (.getfield 178, 3) := by decide +kernel
theorem dX4_gap_53 : decode cX4_gap 53 = .ok (.invokestatic 182, 3) := by decide +kernel
theorem dX4_gap_56 : decode cX4_gap 56 = .ok (.ireturn, 1) := by decide +kernel
theorem dX4_filling_0 : decode cX4_filling 0 = .ok (.aload_n 0, 1) := by decide +kernel
theorem dX4_filling_1 : decode cX4_filling 1 = .ok (.getfield 178, 3) := by decide +kernel
theorem dX4_filling_4 : decode cX4_filling 4 = .ok (.iload_n 1, 1) := by decide +kernel
theorem dX4_filling_5 : decode cX4_filling 5 = .ok (.invokestatic 188, 3) := by decide +kernel
theorem dX4_filling_8 : decode cX4_filling 8 = .ok (.istore_n 2, 1) := by decide +kernel
theorem dX4_filling_9 : decode cX4_filling 9 = .ok (.iload_n 2, 1) := by decide +kernel
theorem dX4_filling_10 : decode cX4_filling 10 = .ok (.ifCond .ge 8, 3) := by decide +kernel
theorem dX4_filling_13 : decode cX4_filling 13 = .ok (.ldc 98, 2) := by decide +kernel
theorem dX4_filling_15 : decode cX4_filling 15 = .ok (.goto 7, 3) := by decide +kernel
theorem dX4_filling_18 : decode cX4_filling 18 = .ok (.iload_n 2, 1) := by decide +kernel
theorem dX4_filling_19 : decode cX4_filling 19 = .ok (.bipush 9, 2) := by decide +kernel
theorem dX4_filling_21 : decode cX4_filling 21 = .ok (.isub, 1) := by decide +kernel
theorem dX4_filling_22 : decode cX4_filling 22 = .ok (.ireturn, 1) := by decide +kernel
theorem dX4_why_0 : decode cX4_why 0 = .ok (.aload_n 0, 1) := by decide +kernel
theorem dX4_why_1 : decode cX4_why 1 = .ok (.iload_n 1, 1) := by decide +kernel
theorem dX4_why_2 : decode cX4_why 2 = .ok (.invokevirtual 156, 3) := by decide +kernel
theorem dX4_why_5 : decode cX4_why 5 = .ok (.astore_n 3, 1) := by decide +kernel
theorem dX4_why_6 : decode cX4_why 6 = .ok (.aload_n 3, 1) := by decide +kernel
theorem dX4_why_7 : decode cX4_why 7 = .ok (.ifnull 10, 3) := by decide +kernel
theorem dX4_why_10 : decode cX4_why 10 = .ok (.aload_n 3, 1) := by decide +kernel
theorem dX4_why_11 : decode cX4_why 11 = .ok (.getfield 192, 3) := by decide +kernel
theorem dX4_why_14 : decode cX4_why 14 = .ok (.ifCond .eq 5, 3) := by decide +kernel
theorem dX4_why_17 : decode cX4_why 17 = .ok (.iconst (-1), 1) := by decide +kernel
theorem dX4_why_18 : decode cX4_why 18 = .ok (.ireturn, 1) := by decide +kernel
theorem dX4_why_19 : decode cX4_why 19 = .ok (.iconst 0, 1) := by decide +kernel
theorem dX4_why_20 : decode cX4_why 20 = .ok (.istore 4, 2) := by decide +kernel
theorem dX4_why_22 : decode cX4_why 22 = .ok (.iconst 0, 1) := by decide +kernel
theorem dX4_why_23 : decode cX4_why 23 = .ok (.istore 5, 2) := by decide +kernel
theorem dX4_why_25 : decode cX4_why 25 = .ok (.iload 5, 2) := by decide +kernel
theorem dX4_why_27 : decode cX4_why 27 = .ok (.bipush 10, 2) := by decide +kernel
theorem dX4_why_29 : decode cX4_why 29 = .ok (.if_icmp .ge 58, 3) := by decide +kernel
theorem dX4_why_32 : decode cX4_why 32 = .ok (.aload_n 0, 1) := by decide +kernel
theorem dX4_why_33 : decode cX4_why 33 = .ok (.getfield 38, 3) := by decide +kernel
theorem dX4_why_36 : decode cX4_why 36 = .ok (.aload_n 3, 1) := by decide +kernel
theorem dX4_why_37 : decode cX4_why 37 = .ok (.getfield 195, 3) := by decide +kernel
theorem dX4_why_40 : decode cX4_why 40 = .ok (.iload 5, 2) := by decide +kernel
theorem dX4_why_42 : decode cX4_why 42 = .ok (.iconst 0, 1) := by decide +kernel
theorem dX4_why_43 : decode cX4_why 43 = .ok (.invokevirtual 117, 3) := by decide +kernel
theorem dX4_why_46 : decode cX4_why 46 = .ok (.aload_n 0, 1) := by decide +kernel
theorem dX4_why_47 : decode cX4_why 47 = .ok (.getfield 38, 3) := by decide +kernel
theorem dX4_why_50 : decode cX4_why 50 = .ok (.getfield 134, 3) := by decide +kernel
theorem dX4_why_53 : decode cX4_why 53 = .ok (.ifCond .ne 28, 3) := by decide +kernel
theorem dX4_why_56 : decode cX4_why 56 = .ok (.aload_n 0, 1) := by decide +kernel
theorem dX4_why_57 : decode cX4_why 57 = .ok (.getfield 38, 3) := by decide +kernel
theorem dX4_why_60 : decode cX4_why 60 = .ok (.getfield 127, 3) := by decide +kernel
theorem dX4_why_63 : decode cX4_why 63 = .ok (.aload_n 3, 1) := by decide +kernel
theorem dX4_why_64 : decode cX4_why 64 = .ok (.getfield 199, 3) := by decide +kernel
theorem dX4_why_67 : decode cX4_why 67 = .ok (.iaload, 1) := by decide +kernel
theorem dX4_why_68 : decode cX4_why 68 = .ok (.iload_n 2, 1) := by decide +kernel
theorem dX4_why_69 : decode cX4_why 69 = .ok (.if_icmp .ne 12, 3) := by decide +kernel
theorem dX4_why_72 : decode cX4_why 72 = .ok (.iload 4, 2) := by decide +kernel
theorem dX4_why_74 : decode cX4_why 74 = .ok (.iconst 1, 1) := by decide +kernel
theorem dX4_why_75 : decode cX4_why 75 = .ok (.iload 5, 2) := by decide +kernel
theorem dX4_why_77 : decode cX4_why 77 = .ok (.ishl, 1) := by decide +kernel
theorem dX4_why_78 : decode cX4_why 78 = .ok (.ior, 1) := by decide +kernel
theorem dX4_why_79 : decode cX4_why 79 = .ok (.istore 4, 2) := by decide +kernel
theorem dX4_why_81 : decode cX4_why 81 = .ok (.iinc 5 1, 3) := by decide +kernel
theorem dX4_why_84 : decode cX4_why 84 = .ok (.goto (-59), 3) := by decide +kernel
theorem dX4_why_87 : decode cX4_why 87 = .ok (.iload 4, 2) := by decide +kernel
theorem dX4_why_89 : decode cX4_why 89 = .ok (.ireturn, 1) := by decide +kernel
theorem dX4_same_0 : decode cX4_same 0 = .ok (.aload_n 0, 1) := by decide +kernel
theorem dX4_same_1 : decode cX4_same 1 = .ok (.iload_n 1, 1) := by decide +kernel
theorem dX4_same_2 : decode cX4_same 2 = .ok (.invokevirtual 68, 3) := by decide +kernel
theorem dX4_same_5 : decode cX4_same 5 = .ok (.astore_n 3, 1) := by decide +kernel
theorem dX4_same_6 : decode cX4_same 6 = .ok (.aload_n 0, 1) := by decide +kernel
theorem dX4_same_7 : decode cX4_same 7 = .ok (.iload_n 2, 1) := by decide +kernel
theorem dX4_same_8 : decode cX4_same 8 = .ok (.invokevirtual 68, 3) := by decide +kernel
theorem dX4_same_11 : decode cX4_same 11 = .ok (.astore 4, 2) := by decide +kernel
theorem dX4_same_13 : decode cX4_same 13 = .ok (.aload_n 3, 1) := by decide +kernel
theorem dX4_same_14 : decode cX4_same 14 = .ok (.ifnull 8, 3) := by decide +kernel
theorem dX4_same_17 : decode cX4_same 17 = .ok (.aload 4, 2) := by decide +kernel
theorem dX4_same_19 : decode cX4_same 19 = .ok (.ifnonnull 5, 3) := by decide +kernel
theorem dX4_same_22 : decode cX4_same 22 = .ok (.iconst (-1), 1) := by decide +kernel
theorem dX4_same_23 : decode cX4_same 23 = .ok (.ireturn, 1) := by decide +kernel
theorem dX4_same_24 : decode cX4_same 24 = .ok (.aload_n 3, 1) := by decide +kernel
theorem dX4_same_25 : decode cX4_same 25 = .ok (.invokevirtual 80, 3) := by decide +kernel
theorem dX4_same_28 : decode cX4_same 28 = .ok (.ifCond .eq 11, 3) := by decide +kernel
theorem dX4_same_31 : decode cX4_same 31 = .ok (.aload 4, 2) := by decide +kernel
theorem dX4_same_33 : decode cX4_same 33 = .ok (.invokevirtual 80, 3) := by decide +kernel
theorem dX4_same_36 : decode cX4_same 36 = .ok (.ifCond .ne 6, 3) := by decide +kernel
theorem dX4_same_39 : decode cX4_same 39 = .ok (.bipush (-3), 2) := by decide +kernel
theorem dX4_same_41 : decode cX4_same 41 = .ok (.ireturn, 1) := by decide +kernel
theorem dX4_same_42 : decode cX4_same 42 = .ok (.iconst 0, 1) := by decide +kernel
theorem dX4_same_43 : decode cX4_same 43 = .ok (.istore 5, 2) := by decide +kernel
theorem dX4_same_45 : decode cX4_same 45 = .ok (.iload 5, 2) := by decide +kernel
theorem dX4_same_47 : decode cX4_same 47 = .ok (.bipush 10, 2) := by decide +kernel
theorem dX4_same_49 : decode cX4_same 49 = .ok (.if_icmp .ge 49, 3) := by decide +kernel
theorem dX4_same_52 : decode cX4_same 52 = .ok (.aload_n 0, 1) := by decide +kernel
theorem dX4_same_53 : decode cX4_same 53 = .ok (.getfield 38, 3) := by decide +kernel
theorem dX4_same_56 : decode cX4_same 56 = .ok (.aload_n 3, 1) := by decide +kernel
theorem dX4_same_57 : decode cX4_same 57 = .ok (.iload 5, 2) := by decide +kernel
theorem dX4_same_59 : decode cX4_same 59 = .ok (.iconst 0, 1) := by decide +kernel
theorem dX4_same_60 : decode cX4_same 60 = .ok (.invokevirtual 117, 3) := by decide +kernel
theorem dX4_same_63 : decode cX4_same 63 = .ok (.aload_n 0, 1) := by decide +kernel
theorem dX4_same_64 : decode cX4_same 64 = .ok (.getfield 41, 3) := by decide +kernel
theorem dX4_same_67 : decode cX4_same 67 = .ok (.aload 4, 2) := by decide +kernel
theorem dX4_same_69 : decode cX4_same 69 = .ok (.iload 5, 2) := by decide +kernel
theorem dX4_same_71 : decode cX4_same 71 = .ok (.iconst 0, 1) := by decide +kernel
theorem dX4_same_72 : decode cX4_same 72 = .ok (.invokevirtual 117, 3) := by decide +kernel
theorem dX4_same_75 : decode cX4_same 75 = .ok (.aload_n 0, 1) := by decide +kernel
theorem dX4_same_76 : decode cX4_same 76 = .ok (.getfield 38, 3) := by decide +kernel
theorem dX4_same_79 : decode cX4_same 79 = .ok (.aload_n 0, 1) := by decide +kernel
theorem dX4_same_80 : decode cX4_same 80 = .ok (.getfield 41, 3) := by decide +kernel
theorem dX4_same_83 : decode cX4_same 83 = .ok (.invokevirtual 202, 3) := by decide +kernel
theorem dX4_same_86 : decode cX4_same 86 = .ok (.ifCond .ne 6, 3) := by decide +kernel
theorem dX4_same_89 : decode cX4_same 89 = .ok (.iload 5, 2) := by decide +kernel
theorem dX4_same_91 : decode cX4_same 91 = .ok (.ireturn, 1) := by decide +kernel
theorem dX4_same_92 : decode cX4_same 92 = .ok (.iinc 5 1, 3) := by decide +kernel
theorem dX4_same_95 : decode cX4_same 95 = .ok (.goto (-50), 3) := by decide +kernel
theorem dX4_same_98 : decode cX4_same 98 = .ok (.bipush 10, 2) := by decide +kernel
theorem dX4_same_100 : decode cX4_same 100 = .ok (.ireturn, 1) := by decide +kernel
theorem dX4_give_0 : decode cX4_give 0 = .ok (.iload_n 1, 1) := by decide +kernel
theorem dX4_give_1 : decode cX4_give 1 = .ok (.invokestatic 206, 3) := by decide +kernel
theorem dX4_give_4 : decode cX4_give 4 = .ok (.ifCond .eq 11, 3) := by decide +kernel
theorem dX4_give_7 : decode cX4_give 7 = .ok (.aload_n 0, 1) := by decide +kernel
theorem dX4_give_8 : decode cX4_give 8 = .ok (.iload_n 2, 1) := by decide +kernel
theorem dX4_give_9 : decode cX4_give 9 = .ok (.invokevirtual 156, 3) := by decide +kernel
theorem dX4_give_12 : decode cX4_give 12 = .ok (.ifnonnull 5, 3) := by decide +kernel
theorem dX4_give_15 : decode cX4_give 15 = .ok (.iconst (-1), 1) := by decide +kernel
theorem dX4_give_16 : decode cX4_give 16 = .ok (.ireturn, 1) := by decide +kernel
theorem dX4_give_17 : decode cX4_give 17 = .ok (.aload_n 0, 1) := by decide +kernel
theorem dX4_give_18 : decode cX4_give 18 = .ok (.getfield 23, 3) := by decide +kernel
theorem dX4_give_21 : decode cX4_give 21 = .ok (.iload_n 1, 1) := by decide +kernel
theorem dX4_give_22 : decode cX4_give 22 = .ok (.aaload, 1) := by decide +kernel
theorem dX4_give_23 : decode cX4_give 23 = .ok (.iload_n 2, 1) := by decide +kernel
theorem dX4_give_24 : decode cX4_give 24 = .ok (.iload_n 3, 1) := by decide +kernel
theorem dX4_give_25 : decode cX4_give 25 = .ok (.invokevirtual 209, 3) := by decide +kernel
theorem dX4_give_28 : decode cX4_give 28 = .ok (.ireturn, 1) := by decide +kernel
theorem dX4_price_0 : decode cX4_price 0 = .ok (.iload_n 1, 1) := by decide +kernel
theorem dX4_price_1 : decode cX4_price 1 = .ok (.ifCond .lt 20, 3) := by decide +kernel
theorem dX4_price_4 : decode cX4_price 4 = .ok (.iload_n 1, 1) := by decide +kernel
theorem dX4_price_5 : decode cX4_price 5 = .ok (.bipush 6, 2) := by decide +kernel
theorem dX4_price_7 : decode cX4_price 7 = .ok (.if_icmp .gt 14, 3) := by decide +kernel
theorem dX4_price_10 : decode cX4_price 10 = .ok (.iload_n 2, 1) := by decide +kernel
theorem dX4_price_11 : decode cX4_price 11 = .ok (.iconst 1, 1) := by decide +kernel
theorem dX4_price_12 : decode cX4_price 12 = .ok (.if_icmp .lt 9, 3) := by decide +kernel
theorem dX4_price_15 : decode cX4_price 15 = .ok (.iload_n 2, 1) := by decide +kernel
theorem dX4_price_16 : decode cX4_price 16 = .ok (.bipush 99, 2) := by decide +kernel
theorem dX4_price_18 : decode cX4_price 18 = .ok (.if_icmp .le 5, 3) := by decide +kernel
theorem dX4_price_21 : decode cX4_price 21 = .ok (.iconst (-1), 1) := by decide +kernel
theorem dX4_price_22 : decode cX4_price 22 = .ok (.ireturn, 1) := by decide +kernel
theorem dX4_price_23 : decode cX4_price 23 = .ok (.aload_n 0, 1) := by decide +kernel
theorem dX4_price_24 : decode cX4_price 24 = .ok (.getfield 27, 3) := by decide +kernel
theorem dX4_price_27 : decode cX4_price 27 = .ok (.iload_n 1, 1) := by decide +kernel
theorem dX4_price_28 : decode cX4_price 28 = .ok (.iaload, 1) := by decide +kernel
theorem dX4_price_29 : decode cX4_price 29 = .ok (.istore_n 3, 1) := by decide +kernel
theorem dX4_price_30 : decode cX4_price 30 = .ok (.aload_n 0, 1) := by decide +kernel
theorem dX4_price_31 : decode cX4_price 31 = .ok (.getfield 27, 3) := by decide +kernel
theorem dX4_price_34 : decode cX4_price 34 = .ok (.iload_n 1, 1) := by decide +kernel
theorem dX4_price_35 : decode cX4_price 35 = .ok (.iload_n 2, 1) := by decide +kernel
theorem dX4_price_36 : decode cX4_price 36 = .ok (.iastore, 1) := by decide +kernel
theorem dX4_price_37 : decode cX4_price 37 = .ok (.iload_n 3, 1) := by decide +kernel
theorem dX4_price_38 : decode cX4_price 38 = .ok (.ireturn, 1) := by decide +kernel
theorem dX4_cost_0 : decode cX4_cost 0 = .ok (.iload_n 1, 1) := by decide +kernel
theorem dX4_cost_1 : decode cX4_cost 1 = .ok (.invokestatic 206, 3) := by decide +kernel
theorem dX4_cost_4 : decode cX4_cost 4 = .ok (.ifCond .eq 18, 3) := by decide +kernel
theorem dX4_cost_7 : decode cX4_cost 7 = .ok (.iload_n 2, 1) := by decide +kernel
theorem dX4_cost_8 : decode cX4_cost 8 = .ok (.invokestatic 114, 3) := by decide +kernel
theorem dX4_cost_11 : decode cX4_cost 11 = .ok (.ifCond .eq 11, 3) := by decide +kernel
theorem dX4_cost_14 : decode cX4_cost 14 = .ok (.iload_n 2, 1) := by decide +kernel
theorem dX4_cost_15 : decode cX4_cost 15 = .ok (.invokestatic 213, 3) := by decide +kernel
theorem dX4_cost_18 : decode cX4_cost 18 = .ok (.iconst 2, 1) := by decide +kernel
theorem dX4_cost_19 : decode cX4_cost 19 = .ok (.if_icmp .le 5, 3) := by decide +kernel
theorem dX4_cost_22 : decode cX4_cost 22 = .ok (.iconst (-1), 1) := by decide +kernel
theorem dX4_cost_23 : decode cX4_cost 23 = .ok (.ireturn, 1) := by decide +kernel
theorem dX4_cost_24 : decode cX4_cost 24 = .ok (.aload_n 0, 1) := by decide +kernel
theorem dX4_cost_25 : decode cX4_cost 25 = .ok (.aload_n 0, 1) := by decide +kernel
theorem dX4_cost_26 : decode cX4_cost 26 = .ok (.getfield 23, 3) := by decide +kernel
theorem dX4_cost_29 : decode cX4_cost 29 = .ok (.iload_n 1, 1) := by decide +kernel
theorem dX4_cost_30 : decode cX4_cost 30 = .ok (.aaload, 1) := by decide +kernel
theorem dX4_cost_31 : decode cX4_cost 31 = .ok (.iload_n 2, 1) := by decide +kernel
theorem dX4_cost_32 : decode cX4_cost 32 = .ok (.invokevirtual 217, 3) := by decide +kernel
theorem dX4_cost_35 : decode cX4_cost 35 = .ok (.ireturn, 1) := by decide +kernel
theorem dX4_sets_0 : decode cX4_sets 0 = .ok (.iload_n 1, 1) := by decide +kernel
theorem dX4_sets_1 : decode cX4_sets 1 = .ok (.invokestatic 206, 3) := by decide +kernel
theorem dX4_sets_4 : decode cX4_sets 4 = .ok (.ifCond .ne 5, 3) := by decide +kernel
theorem dX4_sets_7 : decode cX4_sets 7 = .ok (.iconst (-1), 1) := by decide +kernel
theorem dX4_sets_8 : decode cX4_sets 8 = .ok (.ireturn, 1) := by decide +kernel
theorem dX4_sets_9 : decode cX4_sets 9 = .ok (.aload_n 0, 1) := by decide +kernel
theorem dX4_sets_10 : decode cX4_sets 10 = .ok (.aload_n 0, 1) := by decide +kernel
theorem dX4_sets_11 : decode cX4_sets 11 = .ok (.getfield 23, 3) := by decide +kernel
theorem dX4_sets_14 : decode cX4_sets 14 = .ok (.iload_n 1, 1) := by decide +kernel
theorem dX4_sets_15 : decode cX4_sets 15 = .ok (.aaload, 1) := by decide +kernel
theorem dX4_sets_16 : decode cX4_sets 16 = .ok (.invokevirtual 221, 3) := by decide +kernel
theorem dX4_sets_19 : decode cX4_sets 19 = .ok (.invokestatic 182, 3) := by decide +kernel
theorem dX4_sets_22 : decode cX4_sets 22 = .ok (.ireturn, 1) := by decide +kernel
theorem dX4_set_0 : decode cX4_set 0 = .ok (.iload_n 1, 1) := by decide +kernel
theorem dX4_set_1 : decode cX4_set 1 = .ok (.invokestatic 206, 3) := by decide +kernel
theorem dX4_set_4 : decode cX4_set 4 = .ok (.ifCond .ne 5, 3) := by decide +kernel
theorem dX4_set_7 : decode cX4_set 7 = .ok (.iconst (-1), 1) := by decide +kernel
theorem dX4_set_8 : decode cX4_set 8 = .ok (.ireturn, 1) := by decide +kernel
theorem dX4_set_9 : decode cX4_set 9 = .ok (.aload_n 0, 1) := by decide +kernel
theorem dX4_set_10 : decode cX4_set 10 = .ok (.aload_n 0, 1) := by decide +kernel
theorem dX4_set_11 : decode cX4_set 11 = .ok (.getfield 23, 3) := by decide +kernel
theorem dX4_set_14 : decode cX4_set 14 = .ok (.iload_n 1, 1) := by decide +kernel
theorem dX4_set_15 : decode cX4_set 15 = .ok (.aaload, 1) := by decide +kernel
theorem dX4_set_16 : decode cX4_set 16 = .ok (.invokevirtual 221, 3) := by decide +kernel
theorem dX4_set_19 : decode cX4_set 19 = .ok (.iload_n 2, 1) := by decide +kernel
theorem dX4_set_20 : decode cX4_set 20 = .ok (.invokestatic 188, 3) := by decide +kernel
theorem dX4_set_23 : decode cX4_set 23 = .ok (.istore_n 3, 1) := by decide +kernel
theorem dX4_set_24 : decode cX4_set 24 = .ok (.iload_n 3, 1) := by decide +kernel
theorem dX4_set_25 : decode cX4_set 25 = .ok (.ifCond .ge 7, 3) := by decide +kernel
theorem dX4_set_28 : decode cX4_set 28 = .ok (.iconst (-1), 1) := by decide +kernel
theorem dX4_set_29 : decode cX4_set 29 = .ok (.goto 4, 3) := by decide +kernel
theorem dX4_set_32 : decode cX4_set 32 = .ok (.iload_n 3, 1) := by decide +kernel
theorem dX4_set_33 : decode cX4_set 33 = .ok (.ireturn, 1) := by decide +kernel
theorem dX4_next_0 : decode cX4_next 0 = .ok (.iload_n 1, 1) := by decide +kernel
theorem dX4_next_1 : decode cX4_next 1 = .ok (.invokestatic 206, 3) := by decide +kernel
theorem dX4_next_4 : decode cX4_next 4 = .ok (.ifCond .ne 5, 3) := by decide +kernel
theorem dX4_next_7 : decode cX4_next 7 = .ok (.iconst (-1), 1) := by decide +kernel
theorem dX4_next_8 : decode cX4_next 8 = .ok (.ireturn, 1) := by decide +kernel
theorem dX4_next_9 : decode cX4_next 9 = .ok (.aload_n 0, 1) := by decide +kernel
theorem dX4_next_10 : decode cX4_next 10 = .ok (.aload_n 0, 1) := by decide +kernel
theorem dX4_next_11 : decode cX4_next 11 = .ok (.getfield 23, 3) := by decide +kernel
theorem dX4_next_14 : decode cX4_next 14 = .ok (.iload_n 1, 1) := by decide +kernel
theorem dX4_next_15 : decode cX4_next 15 = .ok (.aaload, 1) := by decide +kernel
theorem dX4_next_16 : decode cX4_next 16 = .ok (.invokevirtual 221, 3) := by decide +kernel
theorem dX4_next_19 : decode cX4_next 19 = .ok (.lstore_n 2, 1) := by decide +kernel
theorem dX4_next_20 : decode cX4_next 20 = .ok (.bipush (-5), 2) := by decide +kernel
theorem dX4_next_22 : decode cX4_next 22 = .ok (.istore 4, 2) := by decide +kernel
theorem dX4_next_24 : decode cX4_next 24 = .ok (.bipush 65, 2) := by decide +kernel
theorem dX4_next_26 : decode cX4_next 26 = .ok (.istore 5, 2) := by decide +kernel
theorem dX4_next_28 : decode cX4_next 28 = .ok (.iconst 0, 1) := by decide +kernel
theorem dX4_next_29 : decode cX4_next 29 = .ok (.istore 6, 2) := by decide +kernel
theorem dX4_next_31 : decode cX4_next 31 = .ok (.iload 6, 2) := by decide +kernel
theorem dX4_next_33 : decode cX4_next 33 = .ok (.aload_n 0, 1) := by decide +kernel
theorem dX4_next_34 : decode cX4_next 34 = .ok (.getfield 150, 3) := by decide +kernel
theorem dX4_next_37 : decode cX4_next 37 = .ok (.if_icmp .ge 56, 3) := by decide +kernel
theorem dX4_next_40 : decode cX4_next 40 = .ok (.aload_n 0, 1) := by decide +kernel
theorem dX4_next_41 : decode cX4_next 41 = .ok (.getfield 23, 3) := by decide +kernel
theorem dX4_next_44 : decode cX4_next 44 = .ok (.iload_n 1, 1) := by decide +kernel
theorem dX4_next_45 : decode cX4_next 45 = .ok (.aaload, 1) := by decide +kernel
theorem dX4_next_46 : decode cX4_next 46 = .ok (.iload 6, 2) := by decide +kernel
theorem dX4_next_48 : decode cX4_next 48 = .ok (.invokevirtual 225, 3) := by decide +kernel
theorem dX4_next_51 : decode cX4_next 51 = .ok (.ifCond .ne 36, 3) := by decide +kernel
theorem dX4_next_54 : decode cX4_next 54 = .ok (.aload_n 0, 1) := by decide +kernel
theorem dX4_next_55 : decode cX4_next 55 = .ok (.aload_n 0, 1) := by decide +kernel
theorem dX4_next_56 : decode cX4_next 56 = .ok (.aload_n 0, 1) := by decide +kernel
theorem dX4_next_57 : decode cX4_next 57 = .ok (.getfield 17, 3) := by decide +kernel
theorem dX4_next_60 : decode cX4_next 60 = .ok (.iload 6, 2) := by decide +kernel
theorem dX4_next_62 : decode cX4_next 62 = .ok (.aaload, 1) := by decide +kernel
theorem dX4_next_63 : decode cX4_next 63 = .ok (.lload_n 2, 1) := by decide +kernel
theorem dX4_next_64 : decode cX4_next 64 = .ok (.invokevirtual 228, 3) := by decide +kernel
theorem dX4_next_67 : decode cX4_next 67 = .ok (.invokevirtual 232, 3) := by decide +kernel
theorem dX4_next_70 : decode cX4_next 70 = .ok (.istore 7, 2) := by decide +kernel
theorem dX4_next_72 : decode cX4_next 72 = .ok (.iload 7, 2) := by decide +kernel
theorem dX4_next_74 : decode cX4_next 74 = .ok (.iload 5, 2) := by decide +kernel
theorem dX4_next_76 : decode cX4_next 76 = .ok (.if_icmp .ge 11, 3) := by decide +kernel
theorem dX4_next_79 : decode cX4_next 79 = .ok (.iload 7, 2) := by decide +kernel
theorem dX4_next_81 : decode cX4_next 81 = .ok (.istore 5, 2) := by decide +kernel
theorem dX4_next_83 : decode cX4_next 83 = .ok (.iload 6, 2) := by decide +kernel
theorem dX4_next_85 : decode cX4_next 85 = .ok (.istore 4, 2) := by decide +kernel
theorem dX4_next_87 : decode cX4_next 87 = .ok (.iinc 6 1, 3) := by decide +kernel
theorem dX4_next_90 : decode cX4_next 90 = .ok (.goto (-59), 3) := by decide +kernel
theorem dX4_next_93 : decode cX4_next 93 = .ok (.iload 4, 2) := by decide +kernel
theorem dX4_next_95 : decode cX4_next 95 = .ok (.ireturn, 1) := by decide +kernel
theorem dX4_parting_0 : decode cX4_parting 0 = .ok (.aload_n 0, 1) := by decide +kernel
theorem dX4_parting_1 : decode cX4_parting 1 = .ok (.getfield 150, 3) := by decide +kernel
theorem dX4_parting_4 : decode cX4_parting 4 = .ok (.bipush 12, 2) := by decide +kernel
theorem dX4_parting_6 : decode cX4_parting 6 = .ok (.invokestatic 235, 3) := by decide +kernel
theorem dX4_parting_9 : decode cX4_parting 9 = .ok (.istore_n 1, 1) := by decide +kernel
theorem dX4_parting_10 : decode cX4_parting 10 = .ok (.iconst 0, 1) := by decide +kernel
theorem dX4_parting_11 : decode cX4_parting 11 = .ok (.istore_n 2, 1) := by decide +kernel
theorem dX4_parting_12 : decode cX4_parting 12 = .ok (.iload_n 2, 1) := by decide +kernel
theorem dX4_parting_13 : decode cX4_parting 13 = .ok (.iload_n 1, 1) := by decide +kernel
theorem dX4_parting_14 : decode cX4_parting 14 = .ok (.if_icmp .ge 25, 3) := by decide +kernel
theorem dX4_parting_17 : decode cX4_parting 17 = .ok (.aload_n 0, 1) := by decide +kernel
theorem dX4_parting_18 : decode cX4_parting 18 = .ok (.getfield 53, 3) := by decide +kernel
theorem dX4_parting_21 : decode cX4_parting 21 = .ok (.iload_n 2, 1) := by decide +kernel
theorem dX4_parting_22 : decode cX4_parting 22 = .ok (.aload_n 0, 1) := by decide +kernel
theorem dX4_parting_23 : decode cX4_parting 23 = .ok (.aload_n 0, 1) := by decide +kernel
theorem dX4_parting_24 : decode cX4_parting 24 = .ok (.getfield 17, 3) := by decide +kernel
theorem dX4_parting_27 : decode cX4_parting 27 = .ok (.iload_n 2, 1) := by decide +kernel
theorem dX4_parting_28 : decode cX4_parting 28 = .ok (.aaload, 1) := by decide +kernel
theorem dX4_parting_29 : decode cX4_parting 29 = .ok (.invokevirtual 240, 3) := by decide +kernel
theorem dX4_parting_32 : decode cX4_parting 32 = .ok (.iastore, 1) := by decide +kernel
theorem dX4_parting_33 : decode cX4_parting 33 = .ok (.iinc 2 1, 3) := by decide +kernel
theorem dX4_parting_36 : decode cX4_parting 36 = .ok (.goto (-24), 3) := by decide +kernel
theorem dX4_parting_39 : decode cX4_parting 39 = .ok (.iconst 1, 1) := by decide +kernel
theorem dX4_parting_40 : decode cX4_parting 40 = .ok (.iload_n 1, 1) := by decide +kernel
theorem dX4_parting_41 : decode cX4_parting 41 = .ok (.ishl, 1) := by decide +kernel
theorem dX4_parting_42 : decode cX4_parting 42 = .ok (.iconst 1, 1) := by decide +kernel
theorem dX4_parting_43 : decode cX4_parting 43 = .ok (.isub, 1) := by decide +kernel
theorem dX4_parting_44 : decode cX4_parting 44 = .ok (.istore_n 2, 1) := by decide +kernel
theorem dX4_parting_45 : decode cX4_parting 45 = .ok (.aload_n 0, 1) := by decide +kernel
theorem dX4_parting_46 : decode cX4_parting 46 = .ok (.iload_n 2, 1) := by decide +kernel
theorem dX4_parting_47 : decode cX4_parting 47 = .ok (.invokevirtual 243, 3) := by decide +kernel
theorem dX4_parting_50 : decode cX4_parting 50 = .ok (.ifCond .ne 6, 3) := by decide +kernel
theorem dX4_parting_53 : decode cX4_parting 53 = .ok (.bipush (-5), 2) := by decide +kernel
theorem dX4_parting_55 : decode cX4_parting 55 = .ok (.ireturn, 1) := by decide +kernel
theorem dX4_parting_56 : decode cX4_parting 56 = .ok (.iload_n 1, 1) := by decide +kernel
theorem dX4_parting_57 : decode cX4_parting 57 = .ok (.istore_n 3, 1) := by decide +kernel
theorem dX4_parting_58 : decode cX4_parting 58 = .ok (.iconst 1, 1) := by decide +kernel
theorem dX4_parting_59 : decode cX4_parting 59 = .ok (.istore 4, 2) := by decide +kernel
theorem dX4_parting_61 : decode cX4_parting 61 = .ok (.iload 4, 2) := by decide +kernel
theorem dX4_parting_63 : decode cX4_parting 63 = .ok (.iload_n 2, 1) := by decide +kernel
theorem dX4_parting_64 : decode cX4_parting 64 = .ok (.if_icmp .ge 33, 3) := by decide +kernel
theorem dX4_parting_67 : decode cX4_parting 67 = .ok (.iload 4, 2) := by decide +kernel
theorem dX4_parting_69 : decode cX4_parting 69 = .ok (.invokestatic 213, 3) := by decide +kernel
theorem dX4_parting_72 : decode cX4_parting 72 = .ok (.iload_n 3, 1) := by decide +kernel
theorem dX4_parting_73 : decode cX4_parting 73 = .ok (.if_icmp .ge 18, 3) := by decide +kernel
theorem dX4_parting_76 : decode cX4_parting 76 = .ok (.aload_n 0, 1) := by decide +kernel
theorem dX4_parting_77 : decode cX4_parting 77 = .ok (.iload 4, 2) := by decide +kernel
theorem dX4_parting_79 : decode cX4_parting 79 = .ok (.invokevirtual 243, 3) := by decide +kernel
theorem dX4_parting_82 : decode cX4_parting 82 = .ok (.ifCond .eq 9, 3) := by decide +kernel
theorem dX4_parting_85 : decode cX4_parting 85 = .ok (.iload 4, 2) := by decide +kernel
theorem dX4_parting_87 : decode cX4_parting 87 = .ok (.invokestatic 213, 3) := by decide +kernel
theorem dX4_parting_90 : decode cX4_parting 90 = .ok (.istore_n 3, 1) := by decide +kernel
theorem dX4_parting_91 : decode cX4_parting 91 = .ok (.iinc 4 1, 3) := by decide +kernel
theorem dX4_parting_94 : decode cX4_parting 94 = .ok (.goto (-33), 3) := by decide +kernel
theorem dX4_parting_97 : decode cX4_parting 97 = .ok (.iload_n 3, 1) := by decide +kernel
theorem dX4_parting_98 : decode cX4_parting 98 = .ok (.ireturn, 1) := by decide +kernel
theorem dX4_count_0 : decode cX4_count 0 = .ok (.iload_n 1, 1) := by decide +kernel
theorem dX4_count_1 : decode cX4_count 1 = .ok (.tableswitch 42 0 2 #[27, 32, 37], 27) := by decide +kernel
theorem dX4_count_28 : decode cX4_count 28 = .ok (.aload_n 0, 1) := by decide +kernel
theorem dX4_count_29 : decode cX4_count 29 = .ok (.getfield 63, 3) := by decide +kernel
theorem dX4_count_32 : decode cX4_count 32 = .ok (.ireturn, 1) := by decide +kernel
theorem dX4_count_33 : decode cX4_count 33 = .ok (.aload_n 0, 1) := by decide +kernel
theorem dX4_count_34 : decode cX4_count 34 = .ok (.getfield 150, 3) := by decide +kernel
theorem dX4_count_37 : decode cX4_count 37 = .ok (.ireturn, 1) := by decide +kernel
theorem dX4_count_38 : decode cX4_count 38 = .ok (.aload_n 0, 1) := by decide +kernel
theorem dX4_count_39 : decode cX4_count 39 = .ok (.getfield 87, 3) := by decide +kernel
theorem dX4_count_42 : decode cX4_count 42 = .ok (.ireturn, 1) := by decide +kernel
theorem dX4_count_43 : decode cX4_count 43 = .ok (.iconst (-1), 1) := by decide +kernel
theorem dX4_count_44 : decode cX4_count 44 = .ok (.ireturn, 1) := by decide +kernel
theorem dX4_programAt_0 : decode cX4_programAt 0 = .ok (.iload_n 1, 1) := by decide +kernel
theorem dX4_programAt_1 : decode cX4_programAt 1 = .ok (.ifCond .lt 20, 3) := by decide +kernel
theorem dX4_programAt_4 : decode cX4_programAt 4 = .ok (.iload_n 1, 1) := by decide +kernel
theorem dX4_programAt_5 : decode cX4_programAt 5 = .ok (.aload_n 0, 1) := by decide +kernel
theorem dX4_programAt_6 : decode cX4_programAt 6 = .ok (.getfield 63, 3) := by decide +kernel
theorem dX4_programAt_9 : decode cX4_programAt 9 = .ok (.if_icmp .ge 12, 3) := by decide +kernel
theorem dX4_programAt_12 : decode cX4_programAt 12 = .ok (.aload_n 0, 1) := by decide +kernel
theorem dX4_programAt_13 : decode cX4_programAt 13 = .ok (.getfield 11, 3) := by decide +kernel
theorem dX4_programAt_16 : decode cX4_programAt 16 = .ok (.iload_n 1, 1) := by decide +kernel
theorem dX4_programAt_17 : decode cX4_programAt 17 = .ok (.aaload, 1) := by decide +kernel
theorem dX4_programAt_18 : decode cX4_programAt 18 = .ok (.goto 4, 3) := by decide +kernel
theorem dX4_programAt_21 : decode cX4_programAt 21 = .ok (.aconst_null, 1) := by decide +kernel
theorem dX4_programAt_22 : decode cX4_programAt 22 = .ok (.areturn, 1) := by decide +kernel
theorem dX4_questionAt_0 : decode cX4_questionAt 0 = .ok (.iload_n 1, 1) := by decide +kernel
theorem dX4_questionAt_1 : decode cX4_questionAt 1 = .ok (.ifCond .lt 20, 3) := by decide +kernel
theorem dX4_questionAt_4 : decode cX4_questionAt 4 = .ok (.iload_n 1, 1) := by decide +kernel
theorem dX4_questionAt_5 : decode cX4_questionAt 5 = .ok (.aload_n 0, 1) := by decide +kernel
theorem dX4_questionAt_6 : decode cX4_questionAt 6 = .ok (.getfield 150, 3) := by decide +kernel
theorem dX4_questionAt_9 : decode cX4_questionAt 9 = .ok (.if_icmp .ge 12, 3) := by decide +kernel
theorem dX4_questionAt_12 : decode cX4_questionAt 12 = .ok (.aload_n 0, 1) := by decide +kernel
theorem dX4_questionAt_13 : decode cX4_questionAt 13 = .ok (.getfield 17, 3) := by decide +kernel
theorem dX4_questionAt_16 : decode cX4_questionAt 16 = .ok (.iload_n 1, 1) := by decide +kernel
theorem dX4_questionAt_17 : decode cX4_questionAt 17 = .ok (.aaload, 1) := by decide +kernel
theorem dX4_questionAt_18 : decode cX4_questionAt 18 = .ok (.goto 4, 3) := by decide +kernel
theorem dX4_questionAt_21 : decode cX4_questionAt 21 = .ok (.aconst_null, 1) := by decide +kernel
theorem dX4_questionAt_22 : decode cX4_questionAt 22 = .ok (.areturn, 1) := by decide +kernel
theorem dX4_isPupil_0 : decode cX4_isPupil 0 = .ok (.iload_n 0, 1) := by decide +kernel
theorem dX4_isPupil_1 : decode cX4_isPupil 1 = .ok (.ifCond .lt 13, 3) := by decide +kernel
theorem dX4_isPupil_4 : decode cX4_isPupil 4 = .ok (.iload_n 0, 1) := by decide +kernel
theorem dX4_isPupil_5 : decode cX4_isPupil 5 = .ok (.bipush 10, 2) := by decide +kernel
theorem dX4_isPupil_7 : decode cX4_isPupil 7 = .ok (.if_icmp .ge 7, 3) := by decide +kernel
theorem dX4_isPupil_10 : decode cX4_isPupil 10 = .ok (.iconst 1, 1) := by decide +kernel
theorem dX4_isPupil_11 : decode cX4_isPupil 11 = .ok (.goto 4, 3) := by decide +kernel
theorem dX4_isPupil_14 : decode cX4_isPupil 14 = .ok (.iconst 0, 1) := by decide +kernel
theorem dX4_isPupil_15 : decode cX4_isPupil 15 = .ok (.ireturn, 1) := by decide +kernel
theorem dX4_isInput_0 : decode cX4_isInput 0 = .ok (.iload_n 0, 1) := by decide +kernel
theorem dX4_isInput_1 : decode cX4_isInput 1 = .ok (.ifCond .lt 13, 3) := by decide +kernel
theorem dX4_isInput_4 : decode cX4_isInput 4 = .ok (.iload_n 0, 1) := by decide +kernel
theorem dX4_isInput_5 : decode cX4_isInput 5 = .ok (.bipush 10, 2) := by decide +kernel
theorem dX4_isInput_7 : decode cX4_isInput 7 = .ok (.if_icmp .ge 7, 3) := by decide +kernel
theorem dX4_isInput_10 : decode cX4_isInput 10 = .ok (.iconst 1, 1) := by decide +kernel
theorem dX4_isInput_11 : decode cX4_isInput 11 = .ok (.goto 4, 3) := by decide +kernel
theorem dX4_isInput_14 : decode cX4_isInput 14 = .ok (.iconst 0, 1) := by decide +kernel
theorem dX4_isInput_15 : decode cX4_isInput 15 = .ok (.ireturn, 1) := by decide +kernel
theorem dX4_isMachine_0 : decode cX4_isMachine 0 = .ok (.iload_n 0, 1) := by decide +kernel
theorem dX4_isMachine_1 : decode cX4_isMachine 1 = .ok (.ifCond .lt 13, 3) := by decide +kernel
theorem dX4_isMachine_4 : decode cX4_isMachine 4 = .ok (.iload_n 0, 1) := by decide +kernel
theorem dX4_isMachine_5 : decode cX4_isMachine 5 = .ok (.bipush 64, 2) := by decide +kernel
theorem dX4_isMachine_7 : decode cX4_isMachine 7 = .ok (.if_icmp .ge 7, 3) := by decide +kernel
theorem dX4_isMachine_10 : decode cX4_isMachine 10 = .ok (.iconst 1, 1) := by decide +kernel
theorem dX4_isMachine_11 : decode cX4_isMachine 11 = .ok (.goto 4, 3) := by decide +kernel
theorem dX4_isMachine_14 : decode cX4_isMachine 14 = .ok (.iconst 0, 1) := by decide +kernel
theorem dX4_isMachine_15 : decode cX4_isMachine 15 = .ok (.ireturn, 1) := by decide +kernel
theorem dX4_isVariable_0 : decode cX4_isVariable 0 = .ok (.iload_n 0, 1) := by decide +kernel
theorem dX4_isVariable_1 : decode cX4_isVariable 1 = .ok (.ifCond .lt 12, 3) := by decide +kernel
theorem dX4_isVariable_4 : decode cX4_isVariable 4 = .ok (.iload_n 0, 1) := by decide +kernel
theorem dX4_isVariable_5 : decode cX4_isVariable 5 = .ok (.iconst 4, 1) := by decide +kernel
theorem dX4_isVariable_6 : decode cX4_isVariable 6 = .ok (.if_icmp .ge 7, 3) := by decide +kernel
theorem dX4_isVariable_9 : decode cX4_isVariable 9 = .ok (.iconst 1, 1) := by decide +kernel
theorem dX4_isVariable_10 : decode cX4_isVariable 10 = .ok (.goto 4, 3) := by decide +kernel
theorem dX4_isVariable_13 : decode cX4_isVariable 13 = .ok (.iconst 0, 1) := by decide +kernel
theorem dX4_isVariable_14 : decode cX4_isVariable 14 = .ok (.ireturn, 1) := by decide +kernel
theorem dX4_isCell_0 : decode cX4_isCell 0 = .ok (.iload_n 0, 1) := by decide +kernel
theorem dX4_isCell_1 : decode cX4_isCell 1 = .ok (.ifCond .lt 13, 3) := by decide +kernel
theorem dX4_isCell_4 : decode cX4_isCell 4 = .ok (.iload_n 0, 1) := by decide +kernel
theorem dX4_isCell_5 : decode cX4_isCell 5 = .ok (.bipush 8, 2) := by decide +kernel
theorem dX4_isCell_7 : decode cX4_isCell 7 = .ok (.if_icmp .ge 7, 3) := by decide +kernel
theorem dX4_isCell_10 : decode cX4_isCell 10 = .ok (.iconst 1, 1) := by decide +kernel
theorem dX4_isCell_11 : decode cX4_isCell 11 = .ok (.goto 4, 3) := by decide +kernel
theorem dX4_isCell_14 : decode cX4_isCell 14 = .ok (.iconst 0, 1) := by decide +kernel
theorem dX4_isCell_15 : decode cX4_isCell 15 = .ok (.ireturn, 1) := by decide +kernel
theorem dX4_isName_0 : decode cX4_isName 0 = .ok (.iload_n 0, 1) := by decide +kernel
theorem dX4_isName_1 : decode cX4_isName 1 = .ok (.ifCond .lt 12, 3) := by decide +kernel
theorem dX4_isName_4 : decode cX4_isName 4 = .ok (.iload_n 0, 1) := by decide +kernel
theorem dX4_isName_5 : decode cX4_isName 5 = .ok (.iconst 2, 1) := by decide +kernel
theorem dX4_isName_6 : decode cX4_isName 6 = .ok (.if_icmp .ge 7, 3) := by decide +kernel
theorem dX4_isName_9 : decode cX4_isName 9 = .ok (.iconst 1, 1) := by decide +kernel
theorem dX4_isName_10 : decode cX4_isName 10 = .ok (.goto 4, 3) := by decide +kernel
theorem dX4_isName_13 : decode cX4_isName 13 = .ok (.iconst 0, 1) := by decide +kernel
theorem dX4_isName_14 : decode cX4_isName 14 = .ok (.ireturn, 1) := by decide +kernel
theorem dX4_fitsOp_0 : decode cX4_fitsOp 0 = .ok (.iload_n 0, 1) := by decide +kernel
theorem dX4_fitsOp_1 : decode cX4_fitsOp 1 = .ok (.tableswitch 191 0 9 #[55, 80, 80, 80, 100, 80, 117, 131, 151, 171], 55) := by decide +kernel
theorem dX4_fitsOp_56 : decode cX4_fitsOp 56 = .ok (.iload_n 1, 1) := by decide +kernel
theorem dX4_fitsOp_57 : decode cX4_fitsOp 57 = .ok (.invokestatic 246, 3) := by decide +kernel
theorem dX4_fitsOp_60 : decode cX4_fitsOp 60 = .ok (.ifCond .eq 19, 3) := by decide +kernel
theorem dX4_fitsOp_63 : decode cX4_fitsOp 63 = .ok (.iload_n 2, 1) := by decide +kernel
theorem dX4_fitsOp_64 : decode cX4_fitsOp 64 = .ok (.bipush (-99), 2) := by decide +kernel
theorem dX4_fitsOp_66 : decode cX4_fitsOp 66 = .ok (.if_icmp .lt 13, 3) := by decide +kernel
theorem dX4_fitsOp_69 : decode cX4_fitsOp 69 = .ok (.iload_n 2, 1) := by decide +kernel
theorem dX4_fitsOp_70 : decode cX4_fitsOp 70 = .ok (.bipush 99, 2) := by decide +kernel
theorem dX4_fitsOp_72 : decode cX4_fitsOp 72 = .ok (.if_icmp .gt 7, 3) := by decide +kernel
theorem dX4_fitsOp_75 : decode cX4_fitsOp 75 = .ok (.iconst 1, 1) := by decide +kernel
theorem dX4_fitsOp_76 : decode cX4_fitsOp 76 = .ok (.goto 4, 3) := by decide +kernel
theorem dX4_fitsOp_79 : decode cX4_fitsOp 79 = .ok (.iconst 0, 1) := by decide +kernel
theorem dX4_fitsOp_80 : decode cX4_fitsOp 80 = .ok (.ireturn, 1) := by decide +kernel
theorem dX4_fitsOp_81 : decode cX4_fitsOp 81 = .ok (.iload_n 1, 1) := by decide +kernel
theorem dX4_fitsOp_82 : decode cX4_fitsOp 82 = .ok (.invokestatic 246, 3) := by decide +kernel
theorem dX4_fitsOp_85 : decode cX4_fitsOp 85 = .ok (.ifCond .eq 14, 3) := by decide +kernel
theorem dX4_fitsOp_88 : decode cX4_fitsOp 88 = .ok (.iload_n 2, 1) := by decide +kernel
theorem dX4_fitsOp_89 : decode cX4_fitsOp 89 = .ok (.invokestatic 246, 3) := by decide +kernel
theorem dX4_fitsOp_92 : decode cX4_fitsOp 92 = .ok (.ifCond .eq 7, 3) := by decide +kernel
theorem dX4_fitsOp_95 : decode cX4_fitsOp 95 = .ok (.iconst 1, 1) := by decide +kernel
theorem dX4_fitsOp_96 : decode cX4_fitsOp 96 = .ok (.goto 4, 3) := by decide +kernel
theorem dX4_fitsOp_99 : decode cX4_fitsOp 99 = .ok (.iconst 0, 1) := by decide +kernel
theorem dX4_fitsOp_100 : decode cX4_fitsOp 100 = .ok (.ireturn, 1) := by decide +kernel
theorem dX4_fitsOp_101 : decode cX4_fitsOp 101 = .ok (.iload_n 1, 1) := by decide +kernel
theorem dX4_fitsOp_102 : decode cX4_fitsOp 102 = .ok (.invokestatic 246, 3) := by decide +kernel
theorem dX4_fitsOp_105 : decode cX4_fitsOp 105 = .ok (.ifCond .eq 11, 3) := by decide +kernel
theorem dX4_fitsOp_108 : decode cX4_fitsOp 108 = .ok (.iload_n 2, 1) := by decide +kernel
theorem dX4_fitsOp_109 : decode cX4_fitsOp 109 = .ok (.ifCond .ne 7, 3) := by decide +kernel
theorem dX4_fitsOp_112 : decode cX4_fitsOp 112 = .ok (.iconst 1, 1) := by decide +kernel
theorem dX4_fitsOp_113 : decode cX4_fitsOp 113 = .ok (.goto 4, 3) := by decide +kernel
theorem dX4_fitsOp_116 : decode cX4_fitsOp 116 = .ok (.iconst 0, 1) := by decide +kernel
theorem dX4_fitsOp_117 : decode cX4_fitsOp 117 = .ok (.ireturn, 1) := by decide +kernel
theorem dX4_fitsOp_118 : decode cX4_fitsOp 118 = .ok (.iload_n 1, 1) := by decide +kernel
theorem dX4_fitsOp_119 : decode cX4_fitsOp 119 = .ok (.ifCond .ne 11, 3) := by decide +kernel
theorem dX4_fitsOp_122 : decode cX4_fitsOp 122 = .ok (.iload_n 2, 1) := by decide +kernel
theorem dX4_fitsOp_123 : decode cX4_fitsOp 123 = .ok (.ifCond .ne 7, 3) := by decide +kernel
theorem dX4_fitsOp_126 : decode cX4_fitsOp 126 = .ok (.iconst 1, 1) := by decide +kernel
theorem dX4_fitsOp_127 : decode cX4_fitsOp 127 = .ok (.goto 4, 3) := by decide +kernel
theorem dX4_fitsOp_130 : decode cX4_fitsOp 130 = .ok (.iconst 0, 1) := by decide +kernel
theorem dX4_fitsOp_131 : decode cX4_fitsOp 131 = .ok (.ireturn, 1) := by decide +kernel
theorem dX4_fitsOp_132 : decode cX4_fitsOp 132 = .ok (.iload_n 1, 1) := by decide +kernel
theorem dX4_fitsOp_133 : decode cX4_fitsOp 133 = .ok (.invokestatic 249, 3) := by decide +kernel
theorem dX4_fitsOp_136 : decode cX4_fitsOp 136 = .ok (.ifCond .eq 14, 3) := by decide +kernel
theorem dX4_fitsOp_139 : decode cX4_fitsOp 139 = .ok (.iload_n 2, 1) := by decide +kernel
theorem dX4_fitsOp_140 : decode cX4_fitsOp 140 = .ok (.invokestatic 246, 3) := by decide +kernel
theorem dX4_fitsOp_143 : decode cX4_fitsOp 143 = .ok (.ifCond .eq 7, 3) := by decide +kernel
theorem dX4_fitsOp_146 : decode cX4_fitsOp 146 = .ok (.iconst 1, 1) := by decide +kernel
theorem dX4_fitsOp_147 : decode cX4_fitsOp 147 = .ok (.goto 4, 3) := by decide +kernel
theorem dX4_fitsOp_150 : decode cX4_fitsOp 150 = .ok (.iconst 0, 1) := by decide +kernel
theorem dX4_fitsOp_151 : decode cX4_fitsOp 151 = .ok (.ireturn, 1) := by decide +kernel
theorem dX4_fitsOp_152 : decode cX4_fitsOp 152 = .ok (.iload_n 1, 1) := by decide +kernel
theorem dX4_fitsOp_153 : decode cX4_fitsOp 153 = .ok (.invokestatic 246, 3) := by decide +kernel
theorem dX4_fitsOp_156 : decode cX4_fitsOp 156 = .ok (.ifCond .eq 14, 3) := by decide +kernel
theorem dX4_fitsOp_159 : decode cX4_fitsOp 159 = .ok (.iload_n 2, 1) := by decide +kernel
theorem dX4_fitsOp_160 : decode cX4_fitsOp 160 = .ok (.invokestatic 249, 3) := by decide +kernel
theorem dX4_fitsOp_163 : decode cX4_fitsOp 163 = .ok (.ifCond .eq 7, 3) := by decide +kernel
theorem dX4_fitsOp_166 : decode cX4_fitsOp 166 = .ok (.iconst 1, 1) := by decide +kernel
theorem dX4_fitsOp_167 : decode cX4_fitsOp 167 = .ok (.goto 4, 3) := by decide +kernel
theorem dX4_fitsOp_170 : decode cX4_fitsOp 170 = .ok (.iconst 0, 1) := by decide +kernel
theorem dX4_fitsOp_171 : decode cX4_fitsOp 171 = .ok (.ireturn, 1) := by decide +kernel
theorem dX4_fitsOp_172 : decode cX4_fitsOp 172 = .ok (.iload_n 1, 1) := by decide +kernel
theorem dX4_fitsOp_173 : decode cX4_fitsOp 173 = .ok (.invokestatic 252, 3) := by decide +kernel
theorem dX4_fitsOp_176 : decode cX4_fitsOp 176 = .ok (.ifCond .eq 14, 3) := by decide +kernel
theorem dX4_fitsOp_179 : decode cX4_fitsOp 179 = .ok (.iload_n 2, 1) := by decide +kernel
theorem dX4_fitsOp_180 : decode cX4_fitsOp 180 = .ok (.invokestatic 252, 3) := by decide +kernel
theorem dX4_fitsOp_183 : decode cX4_fitsOp 183 = .ok (.ifCond .eq 7, 3) := by decide +kernel
theorem dX4_fitsOp_186 : decode cX4_fitsOp 186 = .ok (.iconst 1, 1) := by decide +kernel
theorem dX4_fitsOp_187 : decode cX4_fitsOp 187 = .ok (.goto 4, 3) := by decide +kernel
theorem dX4_fitsOp_190 : decode cX4_fitsOp 190 = .ok (.iconst 0, 1) := by decide +kernel
theorem dX4_fitsOp_191 : decode cX4_fitsOp 191 = .ok (.ireturn, 1) := by decide +kernel
theorem dX4_fitsOp_192 : decode cX4_fitsOp 192 = .ok (.iconst 0, 1) := by decide +kernel
theorem dX4_fitsOp_193 : decode cX4_fitsOp 193 = .ok (.ireturn, 1) := by decide +kernel
theorem dX4_isAskable_0 : decode cX4_isAskable 0 = .ok (.iload_n 1, 1) := by decide +kernel
theorem dX4_isAskable_1 : decode cX4_isAskable 1 = .ok (.tableswitch 43 0 2 #[27, 32, 38], 27) := by decide +kernel
theorem dX4_isAskable_28 : decode cX4_isAskable 28 = .ok (.iload_n 2, 1) := by decide +kernel
theorem dX4_isAskable_29 : decode cX4_isAskable 29 = .ok (.invokestatic 246, 3) := by decide +kernel
theorem dX4_isAskable_32 : decode cX4_isAskable 32 = .ok (.ireturn, 1) := by decide +kernel
theorem dX4_isAskable_33 : decode cX4_isAskable 33 = .ok (.aload_n 0, 1) := by decide +kernel
theorem dX4_isAskable_34 : decode cX4_isAskable 34 = .ok (.iload_n 2, 1) := by decide +kernel
theorem dX4_isAskable_35 : decode cX4_isAskable 35 = .ok (.invokevirtual 94, 3) := by decide +kernel
theorem dX4_isAskable_38 : decode cX4_isAskable 38 = .ok (.ireturn, 1) := by decide +kernel
theorem dX4_isAskable_39 : decode cX4_isAskable 39 = .ok (.iload_n 2, 1) := by decide +kernel
theorem dX4_isAskable_40 : decode cX4_isAskable 40 = .ok (.invokestatic 249, 3) := by decide +kernel
theorem dX4_isAskable_43 : decode cX4_isAskable 43 = .ok (.ireturn, 1) := by decide +kernel
theorem dX4_isAskable_44 : decode cX4_isAskable 44 = .ok (.iconst 0, 1) := by decide +kernel
theorem dX4_isAskable_45 : decode cX4_isAskable 45 = .ok (.ireturn, 1) := by decide +kernel
theorem dX4_answerBy_0 : decode cX4_answerBy 0 = .ok (.aload_n 1, 1) := by decide +kernel
theorem dX4_answerBy_1 : decode cX4_answerBy 1 = .ok (.iload_n 2, 1) := by decide +kernel
theorem dX4_answerBy_2 : decode cX4_answerBy 2 = .ok (.invokevirtual 255, 3) := by decide +kernel
theorem dX4_answerBy_5 : decode cX4_answerBy 5 = .ok (.ifCond .ne 39, 3) := by decide +kernel
theorem dX4_answerBy_8 : decode cX4_answerBy 8 = .ok (.aload_n 0, 1) := by decide +kernel
theorem dX4_answerBy_9 : decode cX4_answerBy 9 = .ok (.getfield 38, 3) := by decide +kernel
theorem dX4_answerBy_12 : decode cX4_answerBy 12 = .ok (.aload_n 1, 1) := by decide +kernel
theorem dX4_answerBy_13 : decode cX4_answerBy 13 = .ok (.getfield 195, 3) := by decide +kernel
theorem dX4_answerBy_16 : decode cX4_answerBy 16 = .ok (.aload_n 1, 1) := by decide +kernel
theorem dX4_answerBy_17 : decode cX4_answerBy 17 = .ok (.getfield 258, 3) := by decide +kernel
theorem dX4_answerBy_20 : decode cX4_answerBy 20 = .ok (.iload_n 2, 1) := by decide +kernel
theorem dX4_answerBy_21 : decode cX4_answerBy 21 = .ok (.invokevirtual 117, 3) := by decide +kernel
theorem dX4_answerBy_24 : decode cX4_answerBy 24 = .ok (.aload_n 1, 1) := by decide +kernel
theorem dX4_answerBy_25 : decode cX4_answerBy 25 = .ok (.iload_n 2, 1) := by decide +kernel
theorem dX4_answerBy_26 : decode cX4_answerBy 26 = .ok (.aload_n 0, 1) := by decide +kernel
theorem dX4_answerBy_27 : decode cX4_answerBy 27 = .ok (.getfield 38, 3) := by decide +kernel
theorem dX4_answerBy_30 : decode cX4_answerBy 30 = .ok (.aload_n 1, 1) := by decide +kernel
theorem dX4_answerBy_31 : decode cX4_answerBy 31 = .ok (.getfield 192, 3) := by decide +kernel
theorem dX4_answerBy_34 : decode cX4_answerBy 34 = .ok (.aload_n 1, 1) := by decide +kernel
theorem dX4_answerBy_35 : decode cX4_answerBy 35 = .ok (.getfield 199, 3) := by decide +kernel
theorem dX4_answerBy_38 : decode cX4_answerBy 38 = .ok (.invokevirtual 261, 3) := by decide +kernel
theorem dX4_answerBy_41 : decode cX4_answerBy 41 = .ok (.invokevirtual 264, 3) := by decide +kernel
theorem dX4_answerBy_44 : decode cX4_answerBy 44 = .ok (.aload_n 1, 1) := by decide +kernel
theorem dX4_answerBy_45 : decode cX4_answerBy 45 = .ok (.getfield 268, 3) := by decide +kernel
theorem dX4_answerBy_48 : decode cX4_answerBy 48 = .ok (.iload_n 2, 1) := by decide +kernel
theorem dX4_answerBy_49 : decode cX4_answerBy 49 = .ok (.iaload, 1) := by decide +kernel
theorem dX4_answerBy_50 : decode cX4_answerBy 50 = .ok (.ireturn, 1) := by decide +kernel
theorem dX4_listChoices_0 : decode cX4_listChoices 0 = .ok (.iconst 0, 1) := by decide +kernel
theorem dX4_listChoices_1 : decode cX4_listChoices 1 = .ok (.istore_n 2, 1) := by decide +kernel
theorem dX4_listChoices_2 : decode cX4_listChoices 2 = .ok (.iconst 0, 1) := by decide +kernel
theorem dX4_listChoices_3 : decode cX4_listChoices 3 = .ok (.istore_n 3, 1) := by decide +kernel
theorem dX4_listChoices_4 : decode cX4_listChoices 4 = .ok (.iload_n 3, 1) := by decide +kernel
theorem dX4_listChoices_5 : decode cX4_listChoices 5 = .ok (.bipush 7, 2) := by decide +kernel
theorem dX4_listChoices_7 : decode cX4_listChoices 7 = .ok (.if_icmp .ge 51, 3) := by decide +kernel
theorem dX4_listChoices_10 : decode cX4_listChoices 10 = .ok (.aload_n 0, 1) := by decide +kernel
theorem dX4_listChoices_11 : decode cX4_listChoices 11 = .ok (.aload_n 1, 1) := by decide +kernel
theorem dX4_listChoices_12 : decode cX4_listChoices 12 = .ok (.iload_n 3, 1) := by decide +kernel
theorem dX4_listChoices_13 : decode cX4_listChoices 13 = .ok (.invokestatic 271, 3) := by decide +kernel
theorem dX4_listChoices_16 : decode cX4_listChoices 16 = .ok (.invokevirtual 160, 3) := by decide +kernel
theorem dX4_listChoices_19 : decode cX4_listChoices 19 = .ok (.istore 4, 2) := by decide +kernel
theorem dX4_listChoices_21 : decode cX4_listChoices 21 = .ok (.aload_n 0, 1) := by decide +kernel
theorem dX4_listChoices_22 : decode cX4_listChoices 22 = .ok (.iload 4, 2) := by decide +kernel
theorem dX4_listChoices_24 : decode cX4_listChoices 24 = .ok (.iload_n 2, 1) := by decide +kernel
theorem dX4_listChoices_25 : decode cX4_listChoices 25 = .ok (.invokevirtual 274, 3) := by decide +kernel
theorem dX4_listChoices_28 : decode cX4_listChoices 28 = .ok (.ifCond .ne 24, 3) := by decide +kernel
theorem dX4_listChoices_31 : decode cX4_listChoices 31 = .ok (.aload_n 0, 1) := by decide +kernel
theorem dX4_listChoices_32 : decode cX4_listChoices 32 = .ok (.getfield 44, 3) := by decide +kernel
theorem dX4_listChoices_35 : decode cX4_listChoices 35 = .ok (.iload_n 2, 1) := by decide +kernel
theorem dX4_listChoices_36 : decode cX4_listChoices 36 = .ok (.iload 4, 2) := by decide +kernel
theorem dX4_listChoices_38 : decode cX4_listChoices 38 = .ok (.iastore, 1) := by decide +kernel
theorem dX4_listChoices_39 : decode cX4_listChoices 39 = .ok (.aload_n 0, 1) := by decide +kernel
theorem dX4_listChoices_40 : decode cX4_listChoices 40 = .ok (.getfield 47, 3) := by decide +kernel
theorem dX4_listChoices_43 : decode cX4_listChoices 43 = .ok (.iload_n 2, 1) := by decide +kernel
theorem dX4_listChoices_44 : decode cX4_listChoices 44 = .ok (.iload_n 3, 1) := by decide +kernel
theorem dX4_listChoices_45 : decode cX4_listChoices 45 = .ok (.invokestatic 271, 3) := by decide +kernel
theorem dX4_listChoices_48 : decode cX4_listChoices 48 = .ok (.iastore, 1) := by decide +kernel
theorem dX4_listChoices_49 : decode cX4_listChoices 49 = .ok (.iinc 2 1, 3) := by decide +kernel
theorem dX4_listChoices_52 : decode cX4_listChoices 52 = .ok (.iinc 3 1, 3) := by decide +kernel
theorem dX4_listChoices_55 : decode cX4_listChoices 55 = .ok (.goto (-51), 3) := by decide +kernel
theorem dX4_listChoices_58 : decode cX4_listChoices 58 = .ok (.iload_n 2, 1) := by decide +kernel
theorem dX4_listChoices_59 : decode cX4_listChoices 59 = .ok (.ireturn, 1) := by decide +kernel
theorem dX4_isListed_0 : decode cX4_isListed 0 = .ok (.iconst 0, 1) := by decide +kernel
theorem dX4_isListed_1 : decode cX4_isListed 1 = .ok (.istore_n 3, 1) := by decide +kernel
theorem dX4_isListed_2 : decode cX4_isListed 2 = .ok (.iload_n 3, 1) := by decide +kernel
theorem dX4_isListed_3 : decode cX4_isListed 3 = .ok (.iload_n 2, 1) := by decide +kernel
theorem dX4_isListed_4 : decode cX4_isListed 4 = .ok (.if_icmp .ge 21, 3) := by decide +kernel
theorem dX4_isListed_7 : decode cX4_isListed 7 = .ok (.aload_n 0, 1) := by decide +kernel
theorem dX4_isListed_8 : decode cX4_isListed 8 = .ok (.getfield 44, 3) := by decide +kernel
theorem dX4_isListed_11 : decode cX4_isListed 11 = .ok (.iload_n 3, 1) := by decide +kernel
theorem dX4_isListed_12 : decode cX4_isListed 12 = .ok (.iaload, 1) := by decide +kernel
theorem dX4_isListed_13 : decode cX4_isListed 13 = .ok (.iload_n 1, 1) := by decide +kernel
theorem dX4_isListed_14 : decode cX4_isListed 14 = .ok (.if_icmp .ne 5, 3) := by decide +kernel
theorem dX4_isListed_17 : decode cX4_isListed 17 = .ok (.iconst 1, 1) := by decide +kernel
theorem dX4_isListed_18 : decode cX4_isListed 18 = .ok (.ireturn, 1) := by decide +kernel
theorem dX4_isListed_19 : decode cX4_isListed 19 = .ok (.iinc 3 1, 3) := by decide +kernel
theorem dX4_isListed_22 : decode cX4_isListed 22 = .ok (.goto (-20), 3) := by decide +kernel
theorem dX4_isListed_25 : decode cX4_isListed 25 = .ok (.iconst 0, 1) := by decide +kernel
theorem dX4_isListed_26 : decode cX4_isListed 26 = .ok (.ireturn, 1) := by decide +kernel
theorem dX4_singleMachine_0 : decode cX4_singleMachine 0 = .ok (.iload_n 0, 1) := by decide +kernel
theorem dX4_singleMachine_1 : decode cX4_singleMachine 1 = .ok (.ifCond .ne 7, 3) := by decide +kernel
theorem dX4_singleMachine_4 : decode cX4_singleMachine 4 = .ok (.iconst 0, 1) := by decide +kernel
theorem dX4_singleMachine_5 : decode cX4_singleMachine 5 = .ok (.goto 8, 3) := by decide +kernel
theorem dX4_singleMachine_8 : decode cX4_singleMachine 8 = .ok (.iconst 1, 1) := by decide +kernel
theorem dX4_singleMachine_9 : decode cX4_singleMachine 9 = .ok (.iload_n 0, 1) := by decide +kernel
theorem dX4_singleMachine_10 : decode cX4_singleMachine 10 = .ok (.iconst 1, 1) := by decide +kernel
theorem dX4_singleMachine_11 : decode cX4_singleMachine 11 = .ok (.isub, 1) := by decide +kernel
theorem dX4_singleMachine_12 : decode cX4_singleMachine 12 = .ok (.ishl, 1) := by decide +kernel
theorem dX4_singleMachine_13 : decode cX4_singleMachine 13 = .ok (.ireturn, 1) := by decide +kernel
theorem dX4_findFillings_0 : decode cX4_findFillings 0 = .ok (.ldc2_w 278, 3) := by decide +kernel
theorem dX4_findFillings_3 : decode cX4_findFillings 3 = .ok (.lstore_n 3, 1) := by decide +kernel
theorem dX4_findFillings_4 : decode cX4_findFillings 4 = .ok (.iconst 0, 1) := by decide +kernel
theorem dX4_findFillings_5 : decode cX4_findFillings 5 = .ok (.istore 5, 2) := by decide +kernel
theorem dX4_findFillings_7 : decode cX4_findFillings 7 = .ok (.iload 5, 2) := by decide +kernel
theorem dX4_findFillings_9 : decode cX4_findFillings 9 = .ok (.bipush 10, 2) := by decide +kernel
theorem dX4_findFillings_11 : decode cX4_findFillings 11 = .ok (.if_icmp .ge 42, 3) := by decide +kernel
theorem dX4_findFillings_14 : decode cX4_findFillings 14 = .ok (.aload_n 0, 1) := by decide +kernel
theorem dX4_findFillings_15 : decode cX4_findFillings 15 = .ok (.getfield 38, 3) := by decide +kernel
theorem dX4_findFillings_18 : decode cX4_findFillings 18 = .ok (.aload_n 1, 1) := by decide +kernel
theorem dX4_findFillings_19 : decode cX4_findFillings 19 = .ok (.iload 5, 2) := by decide +kernel
theorem dX4_findFillings_21 : decode cX4_findFillings 21 = .ok (.iconst 0, 1) := by decide +kernel
theorem dX4_findFillings_22 : decode cX4_findFillings 22 = .ok (.invokevirtual 117, 3) := by decide +kernel
theorem dX4_findFillings_25 : decode cX4_findFillings 25 = .ok (.aload_n 0, 1) := by decide +kernel
theorem dX4_findFillings_26 : decode cX4_findFillings 26 = .ok (.getfield 38, 3) := by decide +kernel
theorem dX4_findFillings_29 : decode cX4_findFillings 29 = .ok (.getfield 143, 3) := by decide +kernel
theorem dX4_findFillings_32 : decode cX4_findFillings 32 = .ok (.iload_n 2, 1) := by decide +kernel
theorem dX4_findFillings_33 : decode cX4_findFillings 33 = .ok (.iaload, 1) := by decide +kernel
theorem dX4_findFillings_34 : decode cX4_findFillings 34 = .ok (.ifCond .le 13, 3) := by decide +kernel
theorem dX4_findFillings_37 : decode cX4_findFillings 37 = .ok (.aload_n 0, 1) := by decide +kernel
theorem dX4_findFillings_38 : decode cX4_findFillings 38 = .ok (.aload_n 1, 1) := by decide +kernel
theorem dX4_findFillings_39 : decode cX4_findFillings 39 = .ok (.iload_n 2, 1) := by decide +kernel
theorem dX4_findFillings_40 : decode cX4_findFillings 40 = .ok (.iload 5, 2) := by decide +kernel
theorem dX4_findFillings_42 : decode cX4_findFillings 42 = .ok (.lload_n 3, 1) := by decide +kernel
theorem dX4_findFillings_43 : decode cX4_findFillings 43 = .ok (.invokevirtual 280, 3) := by decide +kernel
theorem dX4_findFillings_46 : decode cX4_findFillings 46 = .ok (.lstore_n 3, 1) := by decide +kernel
theorem dX4_findFillings_47 : decode cX4_findFillings 47 = .ok (.iinc 5 1, 3) := by decide +kernel
theorem dX4_findFillings_50 : decode cX4_findFillings 50 = .ok (.goto (-43), 3) := by decide +kernel
theorem dX4_findFillings_53 : decode cX4_findFillings 53 = .ok (.lload_n 3, 1) := by decide +kernel
theorem dX4_findFillings_54 : decode cX4_findFillings 54 = .ok (.lreturn, 1) := by decide +kernel
theorem dX4_fillingsThatEndAlike_0 : decode cX4_fillingsThatEndAlike 0 = .ok (.aload_n 1, 1) := by decide +kernel
theorem dX4_fillingsThatEndAlike_1 : decode cX4_fillingsThatEndAlike 1 = .ok (.getfield 105, 3) := by decide +kernel
theorem dX4_fillingsThatEndAlike_4 : decode cX4_fillingsThatEndAlike 4 = .ok (.iload_n 2, 1) := by decide +kernel
theorem dX4_fillingsThatEndAlike_5 : decode cX4_fillingsThatEndAlike 5 = .ok (.iaload, 1) := by decide +kernel
theorem dX4_fillingsThatEndAlike_6 : decode cX4_fillingsThatEndAlike 6 = .ok (.istore 6, 2) := by decide +kernel
theorem dX4_fillingsThatEndAlike_8 : decode cX4_fillingsThatEndAlike 8 = .ok (.lload 4, 2) := by decide +kernel
theorem dX4_fillingsThatEndAlike_10 : decode cX4_fillingsThatEndAlike 10 = .ok (.lstore 7, 2) := by decide +kernel
theorem dX4_fillingsThatEndAlike_12 : decode cX4_fillingsThatEndAlike 12 = .ok (.iconst 0, 1) := by decide +kernel
theorem dX4_fillingsThatEndAlike_13 : decode cX4_fillingsThatEndAlike 13 = .ok (.istore 9, 2) := by decide +kernel
theorem dX4_fillingsThatEndAlike_15 : decode cX4_fillingsThatEndAlike 15 = .ok (.iload 9, 2) := by decide +kernel
theorem dX4_fillingsThatEndAlike_17 : decode cX4_fillingsThatEndAlike 17 = .ok (.bipush 18, 2) := by decide +kernel
theorem dX4_fillingsThatEndAlike_19 : decode cX4_fillingsThatEndAlike 19 = .ok (.if_icmp .gt 67, 3) := by decide +kernel
theorem dX4_fillingsThatEndAlike_22 : decode cX4_fillingsThatEndAlike 22 = .ok (.lload 7, 2) := by decide +kernel
theorem dX4_fillingsThatEndAlike_24 : decode cX4_fillingsThatEndAlike 24 = .ok (.iload 9, 2) := by decide +kernel
theorem dX4_fillingsThatEndAlike_26 : decode cX4_fillingsThatEndAlike 26 = .ok (.invokestatic 284, 3) := by decide +kernel
theorem dX4_fillingsThatEndAlike_29 : decode cX4_fillingsThatEndAlike 29 = .ok (.ifCond .eq 51, 3) := by decide +kernel
theorem dX4_fillingsThatEndAlike_32 : decode cX4_fillingsThatEndAlike 32 = .ok (.aload_n 1, 1) := by decide +kernel
theorem dX4_fillingsThatEndAlike_33 : decode cX4_fillingsThatEndAlike 33 = .ok (.getfield 105, 3) := by decide +kernel
theorem dX4_fillingsThatEndAlike_36 : decode cX4_fillingsThatEndAlike 36 = .ok (.iload_n 2, 1) := by decide +kernel
theorem dX4_fillingsThatEndAlike_37 : decode cX4_fillingsThatEndAlike 37 = .ok (.iload 9, 2) := by decide +kernel
theorem dX4_fillingsThatEndAlike_39 : decode cX4_fillingsThatEndAlike 39 = .ok (.bipush 9, 2) := by decide +kernel
theorem dX4_fillingsThatEndAlike_41 : decode cX4_fillingsThatEndAlike 41 = .ok (.isub, 1) := by decide +kernel
theorem dX4_fillingsThatEndAlike_42 : decode cX4_fillingsThatEndAlike 42 = .ok (.iastore, 1) := by decide +kernel
theorem dX4_fillingsThatEndAlike_43 : decode cX4_fillingsThatEndAlike 43 = .ok (.aload_n 0, 1) := by decide +kernel
theorem dX4_fillingsThatEndAlike_44 : decode cX4_fillingsThatEndAlike 44 = .ok (.getfield 41, 3) := by decide +kernel
theorem dX4_fillingsThatEndAlike_47 : decode cX4_fillingsThatEndAlike 47 = .ok (.aload_n 1, 1) := by decide +kernel
theorem dX4_fillingsThatEndAlike_48 : decode cX4_fillingsThatEndAlike 48 = .ok (.iload_n 3, 1) := by decide +kernel
theorem dX4_fillingsThatEndAlike_49 : decode cX4_fillingsThatEndAlike 49 = .ok (.iconst 0, 1) := by decide +kernel
theorem dX4_fillingsThatEndAlike_50 : decode cX4_fillingsThatEndAlike 50 = .ok (.invokevirtual 117, 3) := by decide +kernel
theorem dX4_fillingsThatEndAlike_53 : decode cX4_fillingsThatEndAlike 53 = .ok (.aload_n 0, 1) := by decide +kernel
theorem dX4_fillingsThatEndAlike_54 : decode cX4_fillingsThatEndAlike 54 = .ok (.getfield 41, 3) := by decide +kernel
theorem dX4_fillingsThatEndAlike_57 : decode cX4_fillingsThatEndAlike 57 = .ok (.aload_n 0, 1) := by decide +kernel
theorem dX4_fillingsThatEndAlike_58 : decode cX4_fillingsThatEndAlike 58 = .ok (.getfield 38, 3) := by decide +kernel
theorem dX4_fillingsThatEndAlike_61 : decode cX4_fillingsThatEndAlike 61 = .ok (.invokevirtual 288, 3) := by decide +kernel
theorem dX4_fillingsThatEndAlike_64 : decode cX4_fillingsThatEndAlike 64 = .ok (.ifCond .ne 16, 3) := by decide +kernel
theorem dX4_fillingsThatEndAlike_67 : decode cX4_fillingsThatEndAlike 67 = .ok (.lload 7, 2) := by decide +kernel
theorem dX4_fillingsThatEndAlike_69 : decode cX4_fillingsThatEndAlike 69 = .ok (.lconst 1, 1) := by decide +kernel
theorem dX4_fillingsThatEndAlike_70 : decode cX4_fillingsThatEndAlike 70 = .ok (.iload 9, 2) := by decide +kernel
theorem dX4_fillingsThatEndAlike_72 : decode cX4_fillingsThatEndAlike 72 = .ok (.lshl, 1) := by decide +kernel
theorem dX4_fillingsThatEndAlike_73 : decode cX4_fillingsThatEndAlike 73 = .ok (.ldc2_w 291, 3) := by decide +kernel
theorem dX4_fillingsThatEndAlike_76 : decode cX4_fillingsThatEndAlike 76 = .ok (.lxor, 1) := by decide +kernel
theorem dX4_fillingsThatEndAlike_77 : decode cX4_fillingsThatEndAlike 77 = .ok (.land, 1) := by decide +kernel
theorem dX4_fillingsThatEndAlike_78 : decode cX4_fillingsThatEndAlike 78 = .ok (.lstore 7, 2) := by decide +kernel
theorem dX4_fillingsThatEndAlike_80 : decode cX4_fillingsThatEndAlike 80 = .ok (.iinc 9 1, 3) := by decide +kernel
theorem dX4_fillingsThatEndAlike_83 : decode cX4_fillingsThatEndAlike 83 = .ok (.goto (-68), 3) := by decide +kernel
theorem dX4_fillingsThatEndAlike_86 : decode cX4_fillingsThatEndAlike 86 = .ok (.aload_n 1, 1) := by decide +kernel
theorem dX4_fillingsThatEndAlike_87 : decode cX4_fillingsThatEndAlike 87 = .ok (.getfield 105, 3) := by decide +kernel
theorem dX4_fillingsThatEndAlike_90 : decode cX4_fillingsThatEndAlike 90 = .ok (.iload_n 2, 1) := by decide +kernel
theorem dX4_fillingsThatEndAlike_91 : decode cX4_fillingsThatEndAlike 91 = .ok (.iload 6, 2) := by decide +kernel
theorem dX4_fillingsThatEndAlike_93 : decode cX4_fillingsThatEndAlike 93 = .ok (.iastore, 1) := by decide +kernel
theorem dX4_fillingsThatEndAlike_94 : decode cX4_fillingsThatEndAlike 94 = .ok (.lload 7, 2) := by decide +kernel
theorem dX4_fillingsThatEndAlike_96 : decode cX4_fillingsThatEndAlike 96 = .ok (.lreturn, 1) := by decide +kernel
theorem dX4_costOf_0 : decode cX4_costOf 0 = .ok (.iconst 0, 1) := by decide +kernel
theorem dX4_costOf_1 : decode cX4_costOf 1 = .ok (.istore_n 3, 1) := by decide +kernel
theorem dX4_costOf_2 : decode cX4_costOf 2 = .ok (.iconst 0, 1) := by decide +kernel
theorem dX4_costOf_3 : decode cX4_costOf 3 = .ok (.istore 4, 2) := by decide +kernel
theorem dX4_costOf_5 : decode cX4_costOf 5 = .ok (.iload 4, 2) := by decide +kernel
theorem dX4_costOf_7 : decode cX4_costOf 7 = .ok (.bipush 6, 2) := by decide +kernel
theorem dX4_costOf_9 : decode cX4_costOf 9 = .ok (.if_icmp .ge 29, 3) := by decide +kernel
theorem dX4_costOf_12 : decode cX4_costOf 12 = .ok (.iload_n 2, 1) := by decide +kernel
theorem dX4_costOf_13 : decode cX4_costOf 13 = .ok (.i2l, 1) := by decide +kernel
theorem dX4_costOf_14 : decode cX4_costOf 14 = .ok (.iload 4, 2) := by decide +kernel
theorem dX4_costOf_16 : decode cX4_costOf 16 = .ok (.invokestatic 284, 3) := by decide +kernel
theorem dX4_costOf_19 : decode cX4_costOf 19 = .ok (.ifCond .eq 13, 3) := by decide +kernel
theorem dX4_costOf_22 : decode cX4_costOf 22 = .ok (.iload_n 3, 1) := by decide +kernel
theorem dX4_costOf_23 : decode cX4_costOf 23 = .ok (.aload_n 0, 1) := by decide +kernel
theorem dX4_costOf_24 : decode cX4_costOf 24 = .ok (.getfield 27, 3) := by decide +kernel
theorem dX4_costOf_27 : decode cX4_costOf 27 = .ok (.iload 4, 2) := by decide +kernel
theorem dX4_costOf_29 : decode cX4_costOf 29 = .ok (.iaload, 1) := by decide +kernel
theorem dX4_costOf_30 : decode cX4_costOf 30 = .ok (.iadd, 1) := by decide +kernel
theorem dX4_costOf_31 : decode cX4_costOf 31 = .ok (.istore_n 3, 1) := by decide +kernel
theorem dX4_costOf_32 : decode cX4_costOf 32 = .ok (.iinc 4 1, 3) := by decide +kernel
theorem dX4_costOf_35 : decode cX4_costOf 35 = .ok (.goto (-30), 3) := by decide +kernel
theorem dX4_costOf_38 : decode cX4_costOf 38 = .ok (.iconst 0, 1) := by decide +kernel
theorem dX4_costOf_39 : decode cX4_costOf 39 = .ok (.istore 4, 2) := by decide +kernel
theorem dX4_costOf_41 : decode cX4_costOf 41 = .ok (.iload 4, 2) := by decide +kernel
theorem dX4_costOf_43 : decode cX4_costOf 43 = .ok (.aload_n 0, 1) := by decide +kernel
theorem dX4_costOf_44 : decode cX4_costOf 44 = .ok (.getfield 150, 3) := by decide +kernel
theorem dX4_costOf_47 : decode cX4_costOf 47 = .ok (.if_icmp .ge 50, 3) := by decide +kernel
theorem dX4_costOf_50 : decode cX4_costOf 50 = .ok (.aload_n 1, 1) := by decide +kernel
theorem dX4_costOf_51 : decode cX4_costOf 51 = .ok (.iload 4, 2) := by decide +kernel
theorem dX4_costOf_53 : decode cX4_costOf 53 = .ok (.invokevirtual 225, 3) := by decide +kernel
theorem dX4_costOf_56 : decode cX4_costOf 56 = .ok (.ifCond .eq 35, 3) := by decide +kernel
theorem dX4_costOf_59 : decode cX4_costOf 59 = .ok (.aload_n 1, 1) := by decide +kernel
theorem dX4_costOf_60 : decode cX4_costOf 60 = .ok (.getfield 293, 3) := by decide +kernel
theorem dX4_costOf_63 : decode cX4_costOf 63 = .ok (.iload 4, 2) := by decide +kernel
theorem dX4_costOf_65 : decode cX4_costOf 65 = .ok (.iaload, 1) := by decide +kernel
theorem dX4_costOf_66 : decode cX4_costOf 66 = .ok (.aload_n 0, 1) := by decide +kernel
theorem dX4_costOf_67 : decode cX4_costOf 67 = .ok (.aload_n 0, 1) := by decide +kernel
theorem dX4_costOf_68 : decode cX4_costOf 68 = .ok (.getfield 17, 3) := by decide +kernel
theorem dX4_costOf_71 : decode cX4_costOf 71 = .ok (.iload 4, 2) := by decide +kernel
theorem dX4_costOf_73 : decode cX4_costOf 73 = .ok (.aaload, 1) := by decide +kernel
theorem dX4_costOf_74 : decode cX4_costOf 74 = .ok (.iload_n 2, 1) := by decide +kernel
theorem dX4_costOf_75 : decode cX4_costOf 75 = .ok (.invokevirtual 160, 3) := by decide +kernel
theorem dX4_costOf_78 : decode cX4_costOf 78 = .ok (.if_icmp .eq 13, 3) := by decide +kernel
theorem dX4_costOf_81 : decode cX4_costOf 81 = .ok (.iload_n 3, 1) := by decide +kernel
theorem dX4_costOf_82 : decode cX4_costOf 82 = .ok (.aload_n 0, 1) := by decide +kernel
theorem dX4_costOf_83 : decode cX4_costOf 83 = .ok (.getfield 27, 3) := by decide +kernel
theorem dX4_costOf_86 : decode cX4_costOf 86 = .ok (.bipush 6, 2) := by decide +kernel
theorem dX4_costOf_88 : decode cX4_costOf 88 = .ok (.iaload, 1) := by decide +kernel
theorem dX4_costOf_89 : decode cX4_costOf 89 = .ok (.iadd, 1) := by decide +kernel
theorem dX4_costOf_90 : decode cX4_costOf 90 = .ok (.istore_n 3, 1) := by decide +kernel
theorem dX4_costOf_91 : decode cX4_costOf 91 = .ok (.iinc 4 1, 3) := by decide +kernel
theorem dX4_costOf_94 : decode cX4_costOf 94 = .ok (.goto (-53), 3) := by decide +kernel
theorem dX4_costOf_97 : decode cX4_costOf 97 = .ok (.iload_n 3, 1) := by decide +kernel
theorem dX4_costOf_98 : decode cX4_costOf 98 = .ok (.ireturn, 1) := by decide +kernel
theorem dX4_findSets_0 : decode cX4_findSets 0 = .ok (.lconst 0, 1) := by decide +kernel
theorem dX4_findSets_1 : decode cX4_findSets 1 = .ok (.lstore_n 2, 1) := by decide +kernel
theorem dX4_findSets_2 : decode cX4_findSets 2 = .ok (.ldc_w 296, 3) := by decide +kernel
theorem dX4_findSets_5 : decode cX4_findSets 5 = .ok (.istore 4, 2) := by decide +kernel
theorem dX4_findSets_7 : decode cX4_findSets 7 = .ok (.iconst 0, 1) := by decide +kernel
theorem dX4_findSets_8 : decode cX4_findSets 8 = .ok (.istore 5, 2) := by decide +kernel
theorem dX4_findSets_10 : decode cX4_findSets 10 = .ok (.iload 5, 2) := by decide +kernel
theorem dX4_findSets_12 : decode cX4_findSets 12 = .ok (.bipush 64, 2) := by decide +kernel
theorem dX4_findSets_14 : decode cX4_findSets 14 = .ok (.if_icmp .ge 54, 3) := by decide +kernel
theorem dX4_findSets_17 : decode cX4_findSets 17 = .ok (.iload 5, 2) := by decide +kernel
theorem dX4_findSets_19 : decode cX4_findSets 19 = .ok (.invokestatic 213, 3) := by decide +kernel
theorem dX4_findSets_22 : decode cX4_findSets 22 = .ok (.iconst 2, 1) := by decide +kernel
theorem dX4_findSets_23 : decode cX4_findSets 23 = .ok (.if_icmp .gt 39, 3) := by decide +kernel
theorem dX4_findSets_26 : decode cX4_findSets 26 = .ok (.aload_n 0, 1) := by decide +kernel
theorem dX4_findSets_27 : decode cX4_findSets 27 = .ok (.aload_n 1, 1) := by decide +kernel
theorem dX4_findSets_28 : decode cX4_findSets 28 = .ok (.iload 5, 2) := by decide +kernel
theorem dX4_findSets_30 : decode cX4_findSets 30 = .ok (.invokevirtual 217, 3) := by decide +kernel
theorem dX4_findSets_33 : decode cX4_findSets 33 = .ok (.istore 6, 2) := by decide +kernel
theorem dX4_findSets_35 : decode cX4_findSets 35 = .ok (.iload 6, 2) := by decide +kernel
theorem dX4_findSets_37 : decode cX4_findSets 37 = .ok (.iload 4, 2) := by decide +kernel
theorem dX4_findSets_39 : decode cX4_findSets 39 = .ok (.if_icmp .ge 9, 3) := by decide +kernel
theorem dX4_findSets_42 : decode cX4_findSets 42 = .ok (.iload 6, 2) := by decide +kernel
theorem dX4_findSets_44 : decode cX4_findSets 44 = .ok (.istore 4, 2) := by decide +kernel
theorem dX4_findSets_46 : decode cX4_findSets 46 = .ok (.lconst 0, 1) := by decide +kernel
theorem dX4_findSets_47 : decode cX4_findSets 47 = .ok (.lstore_n 2, 1) := by decide +kernel
theorem dX4_findSets_48 : decode cX4_findSets 48 = .ok (.iload 6, 2) := by decide +kernel
theorem dX4_findSets_50 : decode cX4_findSets 50 = .ok (.iload 4, 2) := by decide +kernel
theorem dX4_findSets_52 : decode cX4_findSets 52 = .ok (.if_icmp .ne 10, 3) := by decide +kernel
theorem dX4_findSets_55 : decode cX4_findSets 55 = .ok (.lload_n 2, 1) := by decide +kernel
theorem dX4_findSets_56 : decode cX4_findSets 56 = .ok (.lconst 1, 1) := by decide +kernel
theorem dX4_findSets_57 : decode cX4_findSets 57 = .ok (.iload 5, 2) := by decide +kernel
theorem dX4_findSets_59 : decode cX4_findSets 59 = .ok (.lshl, 1) := by decide +kernel
theorem dX4_findSets_60 : decode cX4_findSets 60 = .ok (.lor, 1) := by decide +kernel
theorem dX4_findSets_61 : decode cX4_findSets 61 = .ok (.lstore_n 2, 1) := by decide +kernel
theorem dX4_findSets_62 : decode cX4_findSets 62 = .ok (.iinc 5 1, 3) := by decide +kernel
theorem dX4_findSets_65 : decode cX4_findSets 65 = .ok (.goto (-55), 3) := by decide +kernel
theorem dX4_findSets_68 : decode cX4_findSets 68 = .ok (.lload_n 2, 1) := by decide +kernel
theorem dX4_findSets_69 : decode cX4_findSets 69 = .ok (.lreturn, 1) := by decide +kernel
theorem dX4_listSetAnswers_0 : decode cX4_listSetAnswers 0 = .ok (.iconst 0, 1) := by decide +kernel
theorem dX4_listSetAnswers_1 : decode cX4_listSetAnswers 1 = .ok (.istore 4, 2) := by decide +kernel
theorem dX4_listSetAnswers_3 : decode cX4_listSetAnswers 3 = .ok (.iconst 0, 1) := by decide +kernel
theorem dX4_listSetAnswers_4 : decode cX4_listSetAnswers 4 = .ok (.istore 5, 2) := by decide +kernel
theorem dX4_listSetAnswers_6 : decode cX4_listSetAnswers 6 = .ok (.iload 5, 2) := by decide +kernel
theorem dX4_listSetAnswers_8 : decode cX4_listSetAnswers 8 = .ok (.bipush 64, 2) := by decide +kernel
theorem dX4_listSetAnswers_10 : decode cX4_listSetAnswers 10 = .ok (.if_icmp .ge 35, 3) := by decide +kernel
theorem dX4_listSetAnswers_13 : decode cX4_listSetAnswers 13 = .ok (.lload_n 2, 1) := by decide +kernel
theorem dX4_listSetAnswers_14 : decode cX4_listSetAnswers 14 = .ok (.iload 5, 2) := by decide +kernel
theorem dX4_listSetAnswers_16 : decode cX4_listSetAnswers 16 = .ok (.invokestatic 284, 3) := by decide +kernel
theorem dX4_listSetAnswers_19 : decode cX4_listSetAnswers 19 = .ok (.ifCond .eq 20, 3) := by decide +kernel
theorem dX4_listSetAnswers_22 : decode cX4_listSetAnswers 22 = .ok (.aload_n 0, 1) := by decide +kernel
theorem dX4_listSetAnswers_23 : decode cX4_listSetAnswers 23 = .ok (.getfield 50, 3) := by decide +kernel
theorem dX4_listSetAnswers_26 : decode cX4_listSetAnswers 26 = .ok (.iload 4, 2) := by decide +kernel
theorem dX4_listSetAnswers_28 : decode cX4_listSetAnswers 28 = .ok (.aload_n 0, 1) := by decide +kernel
theorem dX4_listSetAnswers_29 : decode cX4_listSetAnswers 29 = .ok (.aload_n 1, 1) := by decide +kernel
theorem dX4_listSetAnswers_30 : decode cX4_listSetAnswers 30 = .ok (.iload 5, 2) := by decide +kernel
theorem dX4_listSetAnswers_32 : decode cX4_listSetAnswers 32 = .ok (.invokevirtual 160, 3) := by decide +kernel
theorem dX4_listSetAnswers_35 : decode cX4_listSetAnswers 35 = .ok (.iastore, 1) := by decide +kernel
theorem dX4_listSetAnswers_36 : decode cX4_listSetAnswers 36 = .ok (.iinc 4 1, 3) := by decide +kernel
theorem dX4_listSetAnswers_39 : decode cX4_listSetAnswers 39 = .ok (.iinc 5 1, 3) := by decide +kernel
theorem dX4_listSetAnswers_42 : decode cX4_listSetAnswers 42 = .ok (.goto (-36), 3) := by decide +kernel
theorem dX4_listSetAnswers_45 : decode cX4_listSetAnswers 45 = .ok (.iload 4, 2) := by decide +kernel
theorem dX4_listSetAnswers_47 : decode cX4_listSetAnswers 47 = .ok (.ireturn, 1) := by decide +kernel
theorem dX4_mostAlike_0 : decode cX4_mostAlike 0 = .ok (.iconst 0, 1) := by decide +kernel
theorem dX4_mostAlike_1 : decode cX4_mostAlike 1 = .ok (.istore_n 2, 1) := by decide +kernel
theorem dX4_mostAlike_2 : decode cX4_mostAlike 2 = .ok (.iconst 0, 1) := by decide +kernel
theorem dX4_mostAlike_3 : decode cX4_mostAlike 3 = .ok (.istore_n 3, 1) := by decide +kernel
theorem dX4_mostAlike_4 : decode cX4_mostAlike 4 = .ok (.iload_n 3, 1) := by decide +kernel
theorem dX4_mostAlike_5 : decode cX4_mostAlike 5 = .ok (.iload_n 1, 1) := by decide +kernel
theorem dX4_mostAlike_6 : decode cX4_mostAlike 6 = .ok (.if_icmp .ge 53, 3) := by decide +kernel
theorem dX4_mostAlike_9 : decode cX4_mostAlike 9 = .ok (.iconst 0, 1) := by decide +kernel
theorem dX4_mostAlike_10 : decode cX4_mostAlike 10 = .ok (.istore 4, 2) := by decide +kernel
theorem dX4_mostAlike_12 : decode cX4_mostAlike 12 = .ok (.iconst 0, 1) := by decide +kernel
theorem dX4_mostAlike_13 : decode cX4_mostAlike 13 = .ok (.istore 5, 2) := by decide +kernel
theorem dX4_mostAlike_15 : decode cX4_mostAlike 15 = .ok (.iload 5, 2) := by decide +kernel
theorem dX4_mostAlike_17 : decode cX4_mostAlike 17 = .ok (.iload_n 1, 1) := by decide +kernel
theorem dX4_mostAlike_18 : decode cX4_mostAlike 18 = .ok (.if_icmp .ge 28, 3) := by decide +kernel
theorem dX4_mostAlike_21 : decode cX4_mostAlike 21 = .ok (.aload_n 0, 1) := by decide +kernel
theorem dX4_mostAlike_22 : decode cX4_mostAlike 22 = .ok (.getfield 50, 3) := by decide +kernel
theorem dX4_mostAlike_25 : decode cX4_mostAlike 25 = .ok (.iload_n 3, 1) := by decide +kernel
theorem dX4_mostAlike_26 : decode cX4_mostAlike 26 = .ok (.iaload, 1) := by decide +kernel
theorem dX4_mostAlike_27 : decode cX4_mostAlike 27 = .ok (.aload_n 0, 1) := by decide +kernel
theorem dX4_mostAlike_28 : decode cX4_mostAlike 28 = .ok (.getfield 50, 3) := by decide +kernel
theorem dX4_mostAlike_31 : decode cX4_mostAlike 31 = .ok (.iload 5, 2) := by decide +kernel
theorem dX4_mostAlike_33 : decode cX4_mostAlike 33 = .ok (.iaload, 1) := by decide +kernel
theorem dX4_mostAlike_34 : decode cX4_mostAlike 34 = .ok (.if_icmp .ne 6, 3) := by decide +kernel
theorem dX4_mostAlike_37 : decode cX4_mostAlike 37 = .ok (.iinc 4 1, 3) := by decide +kernel
theorem dX4_mostAlike_40 : decode cX4_mostAlike 40 = .ok (.iinc 5 1, 3) := by decide +kernel
theorem dX4_mostAlike_43 : decode cX4_mostAlike 43 = .ok (.goto (-28), 3) := by decide +kernel
theorem dX4_mostAlike_46 : decode cX4_mostAlike 46 = .ok (.iload_n 2, 1) := by decide +kernel
theorem dX4_mostAlike_47 : decode cX4_mostAlike 47 = .ok (.iload 4, 2) := by decide +kernel
theorem dX4_mostAlike_49 : decode cX4_mostAlike 49 = .ok (.invokestatic 297, 3) := by decide +kernel
theorem dX4_mostAlike_52 : decode cX4_mostAlike 52 = .ok (.istore_n 2, 1) := by decide +kernel
theorem dX4_mostAlike_53 : decode cX4_mostAlike 53 = .ok (.iinc 3 1, 3) := by decide +kernel
theorem dX4_mostAlike_56 : decode cX4_mostAlike 56 = .ok (.goto (-52), 3) := by decide +kernel
theorem dX4_mostAlike_59 : decode cX4_mostAlike 59 = .ok (.iload_n 2, 1) := by decide +kernel
theorem dX4_mostAlike_60 : decode cX4_mostAlike 60 = .ok (.ireturn, 1) := by decide +kernel
theorem dX4_pairsParted_0 : decode cX4_pairsParted 0 = .ok (.iconst 0, 1) := by decide +kernel
theorem dX4_pairsParted_1 : decode cX4_pairsParted 1 = .ok (.istore_n 2, 1) := by decide +kernel
theorem dX4_pairsParted_2 : decode cX4_pairsParted 2 = .ok (.iconst 0, 1) := by decide +kernel
theorem dX4_pairsParted_3 : decode cX4_pairsParted 3 = .ok (.istore_n 3, 1) := by decide +kernel
theorem dX4_pairsParted_4 : decode cX4_pairsParted 4 = .ok (.iconst 1, 1) := by decide +kernel
theorem dX4_pairsParted_5 : decode cX4_pairsParted 5 = .ok (.istore 4, 2) := by decide +kernel
theorem dX4_pairsParted_7 : decode cX4_pairsParted 7 = .ok (.iload 4, 2) := by decide +kernel
theorem dX4_pairsParted_9 : decode cX4_pairsParted 9 = .ok (.bipush 7, 2) := by decide +kernel
theorem dX4_pairsParted_11 : decode cX4_pairsParted 11 = .ok (.if_icmp .ge 57, 3) := by decide +kernel
theorem dX4_pairsParted_14 : decode cX4_pairsParted 14 = .ok (.iconst 0, 1) := by decide +kernel
theorem dX4_pairsParted_15 : decode cX4_pairsParted 15 = .ok (.istore 5, 2) := by decide +kernel
theorem dX4_pairsParted_17 : decode cX4_pairsParted 17 = .ok (.iload 5, 2) := by decide +kernel
theorem dX4_pairsParted_19 : decode cX4_pairsParted 19 = .ok (.iload 4, 2) := by decide +kernel
theorem dX4_pairsParted_21 : decode cX4_pairsParted 21 = .ok (.if_icmp .ge 41, 3) := by decide +kernel
theorem dX4_pairsParted_24 : decode cX4_pairsParted 24 = .ok (.aload_n 0, 1) := by decide +kernel
theorem dX4_pairsParted_25 : decode cX4_pairsParted 25 = .ok (.aload_n 1, 1) := by decide +kernel
theorem dX4_pairsParted_26 : decode cX4_pairsParted 26 = .ok (.iload 4, 2) := by decide +kernel
theorem dX4_pairsParted_28 : decode cX4_pairsParted 28 = .ok (.invokestatic 271, 3) := by decide +kernel
theorem dX4_pairsParted_31 : decode cX4_pairsParted 31 = .ok (.invokevirtual 160, 3) := by decide +kernel
theorem dX4_pairsParted_34 : decode cX4_pairsParted 34 = .ok (.aload_n 0, 1) := by decide +kernel
theorem dX4_pairsParted_35 : decode cX4_pairsParted 35 = .ok (.aload_n 1, 1) := by decide +kernel
theorem dX4_pairsParted_36 : decode cX4_pairsParted 36 = .ok (.iload 5, 2) := by decide +kernel
theorem dX4_pairsParted_38 : decode cX4_pairsParted 38 = .ok (.invokestatic 271, 3) := by decide +kernel
theorem dX4_pairsParted_41 : decode cX4_pairsParted 41 = .ok (.invokevirtual 160, 3) := by decide +kernel
theorem dX4_pairsParted_44 : decode cX4_pairsParted 44 = .ok (.if_icmp .eq 9, 3) := by decide +kernel
theorem dX4_pairsParted_47 : decode cX4_pairsParted 47 = .ok (.iload_n 2, 1) := by decide +kernel
theorem dX4_pairsParted_48 : decode cX4_pairsParted 48 = .ok (.iconst 1, 1) := by decide +kernel
theorem dX4_pairsParted_49 : decode cX4_pairsParted 49 = .ok (.iload_n 3, 1) := by decide +kernel
theorem dX4_pairsParted_50 : decode cX4_pairsParted 50 = .ok (.ishl, 1) := by decide +kernel
theorem dX4_pairsParted_51 : decode cX4_pairsParted 51 = .ok (.ior, 1) := by decide +kernel
theorem dX4_pairsParted_52 : decode cX4_pairsParted 52 = .ok (.istore_n 2, 1) := by decide +kernel
theorem dX4_pairsParted_53 : decode cX4_pairsParted 53 = .ok (.iinc 3 1, 3) := by decide +kernel
theorem dX4_pairsParted_56 : decode cX4_pairsParted 56 = .ok (.iinc 5 1, 3) := by decide +kernel
theorem dX4_pairsParted_59 : decode cX4_pairsParted 59 = .ok (.goto (-42), 3) := by decide +kernel
theorem dX4_pairsParted_62 : decode cX4_pairsParted 62 = .ok (.iinc 4 1, 3) := by decide +kernel
theorem dX4_pairsParted_65 : decode cX4_pairsParted 65 = .ok (.goto (-58), 3) := by decide +kernel
theorem dX4_pairsParted_68 : decode cX4_pairsParted 68 = .ok (.iload_n 2, 1) := by decide +kernel
theorem dX4_pairsParted_69 : decode cX4_pairsParted 69 = .ok (.ireturn, 1) := by decide +kernel
theorem dX4_partsAll_0 : decode cX4_partsAll 0 = .ok (.iconst 0, 1) := by decide +kernel
theorem dX4_partsAll_1 : decode cX4_partsAll 1 = .ok (.istore_n 2, 1) := by decide +kernel
theorem dX4_partsAll_2 : decode cX4_partsAll 2 = .ok (.iconst 0, 1) := by decide +kernel
theorem dX4_partsAll_3 : decode cX4_partsAll 3 = .ok (.istore_n 3, 1) := by decide +kernel
theorem dX4_partsAll_4 : decode cX4_partsAll 4 = .ok (.iload_n 3, 1) := by decide +kernel
theorem dX4_partsAll_5 : decode cX4_partsAll 5 = .ok (.bipush 12, 2) := by decide +kernel
theorem dX4_partsAll_7 : decode cX4_partsAll 7 = .ok (.if_icmp .ge 27, 3) := by decide +kernel
theorem dX4_partsAll_10 : decode cX4_partsAll 10 = .ok (.iload_n 1, 1) := by decide +kernel
theorem dX4_partsAll_11 : decode cX4_partsAll 11 = .ok (.i2l, 1) := by decide +kernel
theorem dX4_partsAll_12 : decode cX4_partsAll 12 = .ok (.iload_n 3, 1) := by decide +kernel
theorem dX4_partsAll_13 : decode cX4_partsAll 13 = .ok (.invokestatic 284, 3) := by decide +kernel
theorem dX4_partsAll_16 : decode cX4_partsAll 16 = .ok (.ifCond .eq 12, 3) := by decide +kernel
theorem dX4_partsAll_19 : decode cX4_partsAll 19 = .ok (.iload_n 2, 1) := by decide +kernel
theorem dX4_partsAll_20 : decode cX4_partsAll 20 = .ok (.aload_n 0, 1) := by decide +kernel
theorem dX4_partsAll_21 : decode cX4_partsAll 21 = .ok (.getfield 53, 3) := by decide +kernel
theorem dX4_partsAll_24 : decode cX4_partsAll 24 = .ok (.iload_n 3, 1) := by decide +kernel
theorem dX4_partsAll_25 : decode cX4_partsAll 25 = .ok (.iaload, 1) := by decide +kernel
theorem dX4_partsAll_26 : decode cX4_partsAll 26 = .ok (.ior, 1) := by decide +kernel
theorem dX4_partsAll_27 : decode cX4_partsAll 27 = .ok (.istore_n 2, 1) := by decide +kernel
theorem dX4_partsAll_28 : decode cX4_partsAll 28 = .ok (.iinc 3 1, 3) := by decide +kernel
theorem dX4_partsAll_31 : decode cX4_partsAll 31 = .ok (.goto (-27), 3) := by decide +kernel
theorem dX4_partsAll_34 : decode cX4_partsAll 34 = .ok (.iload_n 2, 1) := by decide +kernel
theorem dX4_partsAll_35 : decode cX4_partsAll 35 = .ok (.ldc_w 300, 3) := by decide +kernel
theorem dX4_partsAll_38 : decode cX4_partsAll 38 = .ok (.if_icmp .ne 7, 3) := by decide +kernel
theorem dX4_partsAll_41 : decode cX4_partsAll 41 = .ok (.iconst 1, 1) := by decide +kernel
theorem dX4_partsAll_42 : decode cX4_partsAll 42 = .ok (.goto 4, 3) := by decide +kernel
theorem dX4_partsAll_45 : decode cX4_partsAll 45 = .ok (.iconst 0, 1) := by decide +kernel
theorem dX4_partsAll_46 : decode cX4_partsAll 46 = .ok (.ireturn, 1) := by decide +kernel
theorem dX4_hasBit_0 : decode cX4_hasBit 0 = .ok (.lload_n 0, 1) := by decide +kernel
theorem dX4_hasBit_1 : decode cX4_hasBit 1 = .ok (.iload_n 2, 1) := by decide +kernel
theorem dX4_hasBit_2 : decode cX4_hasBit 2 = .ok (.lshr, 1) := by decide +kernel
theorem dX4_hasBit_3 : decode cX4_hasBit 3 = .ok (.lconst 1, 1) := by decide +kernel
theorem dX4_hasBit_4 : decode cX4_hasBit 4 = .ok (.land, 1) := by decide +kernel
theorem dX4_hasBit_5 : decode cX4_hasBit 5 = .ok (.lconst 0, 1) := by decide +kernel
theorem dX4_hasBit_6 : decode cX4_hasBit 6 = .ok (.lcmp, 1) := by decide +kernel
theorem dX4_hasBit_7 : decode cX4_hasBit 7 = .ok (.ifCond .eq 7, 3) := by decide +kernel
theorem dX4_hasBit_10 : decode cX4_hasBit 10 = .ok (.iconst 1, 1) := by decide +kernel
theorem dX4_hasBit_11 : decode cX4_hasBit 11 = .ok (.goto 4, 3) := by decide +kernel
theorem dX4_hasBit_14 : decode cX4_hasBit 14 = .ok (.iconst 0, 1) := by decide +kernel
theorem dX4_hasBit_15 : decode cX4_hasBit 15 = .ok (.ireturn, 1) := by decide +kernel
theorem dX4_bitAt_0 : decode cX4_bitAt 0 = .ok (.iconst 0, 1) := by decide +kernel
theorem dX4_bitAt_1 : decode cX4_bitAt 1 = .ok (.istore_n 3, 1) := by decide +kernel
theorem dX4_bitAt_2 : decode cX4_bitAt 2 = .ok (.iconst 0, 1) := by decide +kernel
theorem dX4_bitAt_3 : decode cX4_bitAt 3 = .ok (.istore 4, 2) := by decide +kernel
theorem dX4_bitAt_5 : decode cX4_bitAt 5 = .ok (.iload 4, 2) := by decide +kernel
theorem dX4_bitAt_7 : decode cX4_bitAt 7 = .ok (.bipush 64, 2) := by decide +kernel
theorem dX4_bitAt_9 : decode cX4_bitAt 9 = .ok (.if_icmp .ge 29, 3) := by decide +kernel
theorem dX4_bitAt_12 : decode cX4_bitAt 12 = .ok (.lload_n 0, 1) := by decide +kernel
theorem dX4_bitAt_13 : decode cX4_bitAt 13 = .ok (.iload 4, 2) := by decide +kernel
theorem dX4_bitAt_15 : decode cX4_bitAt 15 = .ok (.invokestatic 284, 3) := by decide +kernel
theorem dX4_bitAt_18 : decode cX4_bitAt 18 = .ok (.ifCond .eq 14, 3) := by decide +kernel
theorem dX4_bitAt_21 : decode cX4_bitAt 21 = .ok (.iload_n 3, 1) := by decide +kernel
theorem dX4_bitAt_22 : decode cX4_bitAt 22 = .ok (.iload_n 2, 1) := by decide +kernel
theorem dX4_bitAt_23 : decode cX4_bitAt 23 = .ok (.if_icmp .ne 6, 3) := by decide +kernel
theorem dX4_bitAt_26 : decode cX4_bitAt 26 = .ok (.iload 4, 2) := by decide +kernel
theorem dX4_bitAt_28 : decode cX4_bitAt 28 = .ok (.ireturn, 1) := by decide +kernel
theorem dX4_bitAt_29 : decode cX4_bitAt 29 = .ok (.iinc 3 1, 3) := by decide +kernel
theorem dX4_bitAt_32 : decode cX4_bitAt 32 = .ok (.iinc 4 1, 3) := by decide +kernel
theorem dX4_bitAt_35 : decode cX4_bitAt 35 = .ok (.goto (-30), 3) := by decide +kernel
theorem dX4_bitAt_38 : decode cX4_bitAt 38 = .ok (.iconst (-1), 1) := by decide +kernel
theorem dX4_bitAt_39 : decode cX4_bitAt 39 = .ok (.ireturn, 1) := by decide +kernel
theorem dJ6_bitCount_0f7a4_0 : decode cJ6_bitCount_0f7a4 0 = .ok (.iload_n 0, 1) := by decide +kernel
theorem dJ6_bitCount_0f7a4_1 : decode cJ6_bitCount_0f7a4 1 = .ok (.iload_n 0, 1) := by decide +kernel
theorem dJ6_bitCount_0f7a4_2 : decode cJ6_bitCount_0f7a4 2 = .ok (.iconst 1, 1) := by decide +kernel
theorem dJ6_bitCount_0f7a4_3 : decode cJ6_bitCount_0f7a4 3 = .ok (.iushr, 1) := by decide +kernel
theorem dJ6_bitCount_0f7a4_4 : decode cJ6_bitCount_0f7a4 4 = .ok (.ldc_w 265, 3) := by decide +kernel
theorem dJ6_bitCount_0f7a4_7 : decode cJ6_bitCount_0f7a4 7 = .ok (.iand, 1) := by decide +kernel
theorem dJ6_bitCount_0f7a4_8 : decode cJ6_bitCount_0f7a4 8 = .ok (.isub, 1) := by decide +kernel
theorem dJ6_bitCount_0f7a4_9 : decode cJ6_bitCount_0f7a4 9 = .ok (.istore_n 0, 1) := by decide +kernel
theorem dJ6_bitCount_0f7a4_10 : decode cJ6_bitCount_0f7a4 10 = .ok (.iload_n 0, 1) := by decide +kernel
theorem dJ6_bitCount_0f7a4_11 : decode cJ6_bitCount_0f7a4 11 = .ok (.ldc_w 266, 3) := by decide +kernel
theorem dJ6_bitCount_0f7a4_14 : decode cJ6_bitCount_0f7a4 14 = .ok (.iand, 1) := by decide +kernel
theorem dJ6_bitCount_0f7a4_15 : decode cJ6_bitCount_0f7a4 15 = .ok (.iload_n 0, 1) := by decide +kernel
theorem dJ6_bitCount_0f7a4_16 : decode cJ6_bitCount_0f7a4 16 = .ok (.iconst 2, 1) := by decide +kernel
theorem dJ6_bitCount_0f7a4_17 : decode cJ6_bitCount_0f7a4 17 = .ok (.iushr, 1) := by decide +kernel
theorem dJ6_bitCount_0f7a4_18 : decode cJ6_bitCount_0f7a4 18 = .ok (.ldc_w 266, 3) := by decide +kernel
theorem dJ6_bitCount_0f7a4_21 : decode cJ6_bitCount_0f7a4 21 = .ok (.iand, 1) := by decide +kernel
theorem dJ6_bitCount_0f7a4_22 : decode cJ6_bitCount_0f7a4 22 = .ok (.iadd, 1) := by decide +kernel
theorem dJ6_bitCount_0f7a4_23 : decode cJ6_bitCount_0f7a4 23 = .ok (.istore_n 0, 1) := by decide +kernel
theorem dJ6_bitCount_0f7a4_24 : decode cJ6_bitCount_0f7a4 24 = .ok (.iload_n 0, 1) := by decide +kernel
theorem dJ6_bitCount_0f7a4_25 : decode cJ6_bitCount_0f7a4 25 = .ok (.iload_n 0, 1) := by decide +kernel
theorem dJ6_bitCount_0f7a4_26 : decode cJ6_bitCount_0f7a4 26 = .ok (.iconst 4, 1) := by decide +kernel
theorem dJ6_bitCount_0f7a4_27 : decode cJ6_bitCount_0f7a4 27 = .ok (.iushr, 1) := by decide +kernel
theorem dJ6_bitCount_0f7a4_28 : decode cJ6_bitCount_0f7a4 28 = .ok (.iadd, 1) := by decide +kernel
theorem dJ6_bitCount_0f7a4_29 : decode cJ6_bitCount_0f7a4 29 = .ok (.ldc_w 267, 3) := by decide +kernel
theorem dJ6_bitCount_0f7a4_32 : decode cJ6_bitCount_0f7a4 32 = .ok (.iand, 1) := by decide +kernel
theorem dJ6_bitCount_0f7a4_33 : decode cJ6_bitCount_0f7a4 33 = .ok (.istore_n 0, 1) := by decide +kernel
theorem dJ6_bitCount_0f7a4_34 : decode cJ6_bitCount_0f7a4 34 = .ok (.iload_n 0, 1) := by decide +kernel
theorem dJ6_bitCount_0f7a4_35 : decode cJ6_bitCount_0f7a4 35 = .ok (.iload_n 0, 1) := by decide +kernel
theorem dJ6_bitCount_0f7a4_36 : decode cJ6_bitCount_0f7a4 36 = .ok (.bipush 8, 2) := by decide +kernel
theorem dJ6_bitCount_0f7a4_38 : decode cJ6_bitCount_0f7a4 38 = .ok (.iushr, 1) := by decide +kernel
theorem dJ6_bitCount_0f7a4_39 : decode cJ6_bitCount_0f7a4 39 = .ok (.iadd, 1) := by decide +kernel
theorem dJ6_bitCount_0f7a4_40 : decode cJ6_bitCount_0f7a4 40 = .ok (.istore_n 0, 1) := by decide +kernel
theorem dJ6_bitCount_0f7a4_41 : decode cJ6_bitCount_0f7a4 41 = .ok (.iload_n 0, 1) := by decide +kernel
theorem dJ6_bitCount_0f7a4_42 : decode cJ6_bitCount_0f7a4 42 = .ok (.iload_n 0, 1) := by decide +kernel
theorem dJ6_bitCount_0f7a4_43 : decode cJ6_bitCount_0f7a4 43 = .ok (.bipush 16, 2) := by decide +kernel
theorem dJ6_bitCount_0f7a4_45 : decode cJ6_bitCount_0f7a4 45 = .ok (.iushr, 1) := by decide +kernel
theorem dJ6_bitCount_0f7a4_46 : decode cJ6_bitCount_0f7a4 46 = .ok (.iadd, 1) := by decide +kernel
theorem dJ6_bitCount_0f7a4_47 : decode cJ6_bitCount_0f7a4 47 = .ok (.istore_n 0, 1) := by decide +kernel
theorem dJ6_bitCount_0f7a4_48 : decode cJ6_bitCount_0f7a4 48 = .ok (.iload_n 0, 1) := by decide +kernel
theorem dJ6_bitCount_0f7a4_49 : decode cJ6_bitCount_0f7a4 49 = .ok (.bipush 63, 2) := by decide +kernel
theorem dJ6_bitCount_0f7a4_51 : decode cJ6_bitCount_0f7a4 51 = .ok (.iand, 1) := by decide +kernel
theorem dJ6_bitCount_0f7a4_52 : decode cJ6_bitCount_0f7a4 52 = .ok (.ireturn, 1) := by decide +kernel
theorem dJ13_bitCount_95d88_0 : decode cJ13_bitCount_95d88 0 = .ok (.lload_n 0, 1) := by decide +kernel
theorem dJ13_bitCount_95d88_1 : decode cJ13_bitCount_95d88 1 = .ok (.lload_n 0, 1) := by decide +kernel
theorem dJ13_bitCount_95d88_2 : decode cJ13_bitCount_95d88 2 = .ok (.iconst 1, 1) := by decide +kernel
theorem dJ13_bitCount_95d88_3 : decode cJ13_bitCount_95d88 3 = .ok (.lushr, 1) := by decide +kernel
theorem dJ13_bitCount_95d88_4 : decode cJ13_bitCount_95d88 4 = .ok (.ldc2_w 314, 3) := by decide +kernel
theorem dJ13_bitCount_95d88_7 : decode cJ13_bitCount_95d88 7 = .ok (.land, 1) := by decide +kernel
theorem dJ13_bitCount_95d88_8 : decode cJ13_bitCount_95d88 8 = .ok (.lsub, 1) := by decide +kernel
theorem dJ13_bitCount_95d88_9 : decode cJ13_bitCount_95d88 9 = .ok (.lstore_n 0, 1) := by decide +kernel
theorem dJ13_bitCount_95d88_10 : decode cJ13_bitCount_95d88 10 = .ok (.lload_n 0, 1) := by decide +kernel
theorem dJ13_bitCount_95d88_11 : decode cJ13_bitCount_95d88 11 = .ok (.ldc2_w 316, 3) := by decide +kernel
theorem dJ13_bitCount_95d88_14 : decode cJ13_bitCount_95d88 14 = .ok (.land, 1) := by decide +kernel
theorem dJ13_bitCount_95d88_15 : decode cJ13_bitCount_95d88 15 = .ok (.lload_n 0, 1) := by decide +kernel
theorem dJ13_bitCount_95d88_16 : decode cJ13_bitCount_95d88 16 = .ok (.iconst 2, 1) := by decide +kernel
theorem dJ13_bitCount_95d88_17 : decode cJ13_bitCount_95d88 17 = .ok (.lushr, 1) := by decide +kernel
theorem dJ13_bitCount_95d88_18 : decode cJ13_bitCount_95d88 18 = .ok (.ldc2_w 316, 3) := by decide +kernel
theorem dJ13_bitCount_95d88_21 : decode cJ13_bitCount_95d88 21 = .ok (.land, 1) := by decide +kernel
theorem dJ13_bitCount_95d88_22 : decode cJ13_bitCount_95d88 22 = .ok (.ladd, 1) := by decide +kernel
theorem dJ13_bitCount_95d88_23 : decode cJ13_bitCount_95d88 23 = .ok (.lstore_n 0, 1) := by decide +kernel
theorem dJ13_bitCount_95d88_24 : decode cJ13_bitCount_95d88 24 = .ok (.lload_n 0, 1) := by decide +kernel
theorem dJ13_bitCount_95d88_25 : decode cJ13_bitCount_95d88 25 = .ok (.lload_n 0, 1) := by decide +kernel
theorem dJ13_bitCount_95d88_26 : decode cJ13_bitCount_95d88 26 = .ok (.iconst 4, 1) := by decide +kernel
theorem dJ13_bitCount_95d88_27 : decode cJ13_bitCount_95d88 27 = .ok (.lushr, 1) := by decide +kernel
theorem dJ13_bitCount_95d88_28 : decode cJ13_bitCount_95d88 28 = .ok (.ladd, 1) := by decide +kernel
theorem dJ13_bitCount_95d88_29 : decode cJ13_bitCount_95d88 29 = .ok (.ldc2_w 318, 3) := by decide +kernel
theorem dJ13_bitCount_95d88_32 : decode cJ13_bitCount_95d88 32 = .ok (.land, 1) := by decide +kernel
theorem dJ13_bitCount_95d88_33 : decode cJ13_bitCount_95d88 33 = .ok (.lstore_n 0, 1) := by decide +kernel
theorem dJ13_bitCount_95d88_34 : decode cJ13_bitCount_95d88 34 = .ok (.lload_n 0, 1) := by decide +kernel
theorem dJ13_bitCount_95d88_35 : decode cJ13_bitCount_95d88 35 = .ok (.lload_n 0, 1) := by decide +kernel
theorem dJ13_bitCount_95d88_36 : decode cJ13_bitCount_95d88 36 = .ok (.bipush 8, 2) := by decide +kernel
theorem dJ13_bitCount_95d88_38 : decode cJ13_bitCount_95d88 38 = .ok (.lushr, 1) := by decide +kernel
theorem dJ13_bitCount_95d88_39 : decode cJ13_bitCount_95d88 39 = .ok (.ladd, 1) := by decide +kernel
theorem dJ13_bitCount_95d88_40 : decode cJ13_bitCount_95d88 40 = .ok (.lstore_n 0, 1) := by decide +kernel
theorem dJ13_bitCount_95d88_41 : decode cJ13_bitCount_95d88 41 = .ok (.lload_n 0, 1) := by decide +kernel
theorem dJ13_bitCount_95d88_42 : decode cJ13_bitCount_95d88 42 = .ok (.lload_n 0, 1) := by decide +kernel
theorem dJ13_bitCount_95d88_43 : decode cJ13_bitCount_95d88 43 = .ok (.bipush 16, 2) := by decide +kernel
theorem dJ13_bitCount_95d88_45 : decode cJ13_bitCount_95d88 45 = .ok (.lushr, 1) := by decide +kernel
theorem dJ13_bitCount_95d88_46 : decode cJ13_bitCount_95d88 46 = .ok (.ladd, 1) := by decide +kernel
theorem dJ13_bitCount_95d88_47 : decode cJ13_bitCount_95d88 47 = .ok (.lstore_n 0, 1) := by decide +kernel
theorem dJ13_bitCount_95d88_48 : decode cJ13_bitCount_95d88 48 = .ok (.lload_n 0, 1) := by decide +kernel
theorem dJ13_bitCount_95d88_49 : decode cJ13_bitCount_95d88 49 = .ok (.lload_n 0, 1) := by decide +kernel
theorem dJ13_bitCount_95d88_50 : decode cJ13_bitCount_95d88 50 = .ok (.bipush 32, 2) := by decide +kernel
theorem dJ13_bitCount_95d88_52 : decode cJ13_bitCount_95d88 52 = .ok (.lushr, 1) := by decide +kernel
theorem dJ13_bitCount_95d88_53 : decode cJ13_bitCount_95d88 53 = .ok (.ladd, 1) := by decide +kernel
theorem dJ13_bitCount_95d88_54 : decode cJ13_bitCount_95d88 54 = .ok (.lstore_n 0, 1) := by decide +kernel
theorem dJ13_bitCount_95d88_55 : decode cJ13_bitCount_95d88 55 = .ok (.lload_n 0, 1) := by decide +kernel
theorem dJ13_bitCount_95d88_56 : decode cJ13_bitCount_95d88 56 = .ok (.l2i, 1) := by decide +kernel
theorem dJ13_bitCount_95d88_57 : decode cJ13_bitCount_95d88 57 = .ok (.bipush 127, 2) := by decide +kernel
theorem dJ13_bitCount_95d88_59 : decode cJ13_bitCount_95d88 59 = .ok (.iand, 1) := by decide +kernel
theorem dJ13_bitCount_95d88_60 : decode cJ13_bitCount_95d88 60 = .ok (.ireturn, 1) := by decide +kernel
theorem dJ9_max_7cf53_0 : decode cJ9_max_7cf53 0 = .ok (.iload_n 0, 1) := by decide +kernel
theorem dJ9_max_7cf53_1 : decode cJ9_max_7cf53 1 = .ok (.iload_n 1, 1) := by decide +kernel
theorem dJ9_max_7cf53_2 : decode cJ9_max_7cf53 2 = .ok (.if_icmp .lt 7, 3) := by decide +kernel
theorem dJ9_max_7cf53_5 : decode cJ9_max_7cf53 5 = .ok (.iload_n 0, 1) := by decide +kernel
theorem dJ9_max_7cf53_6 : decode cJ9_max_7cf53 6 = .ok (.goto 4, 3) := by decide +kernel
theorem dJ9_max_7cf53_9 : decode cJ9_max_7cf53 9 = .ok (.iload_n 1, 1) := by decide +kernel
theorem dJ9_max_7cf53_10 : decode cJ9_max_7cf53 10 = .ok (.ireturn, 1) := by decide +kernel
theorem dJ9_min_7cf53_0 : decode cJ9_min_7cf53 0 = .ok (.iload_n 0, 1) := by decide +kernel
theorem dJ9_min_7cf53_1 : decode cJ9_min_7cf53 1 = .ok (.iload_n 1, 1) := by decide +kernel
theorem dJ9_min_7cf53_2 : decode cJ9_min_7cf53 2 = .ok (.if_icmp .gt 7, 3) := by decide +kernel
theorem dJ9_min_7cf53_5 : decode cJ9_min_7cf53 5 = .ok (.iload_n 0, 1) := by decide +kernel
theorem dJ9_min_7cf53_6 : decode cJ9_min_7cf53 6 = .ok (.goto 4, 3) := by decide +kernel
theorem dJ9_min_7cf53_9 : decode cJ9_min_7cf53 9 = .ok (.iload_n 1, 1) := by decide +kernel
theorem dJ9_min_7cf53_10 : decode cJ9_min_7cf53 10 = .ok (.ireturn, 1) := by decide +kernel
theorem dJ7_fill_53178_0 : decode cJ7_fill_53178 0 = .ok (.iconst 0, 1) := by decide +kernel
theorem dJ7_fill_53178_1 : decode cJ7_fill_53178 1 = .ok (.istore_n 2, 1) := by decide +kernel
theorem dJ7_fill_53178_2 : decode cJ7_fill_53178 2 = .ok (.aload_n 0, 1) := by decide +kernel
theorem dJ7_fill_53178_3 : decode cJ7_fill_53178 3 = .ok (.arraylength, 1) := by decide +kernel
theorem dJ7_fill_53178_4 : decode cJ7_fill_53178 4 = .ok (.istore_n 3, 1) := by decide +kernel
theorem dJ7_fill_53178_5 : decode cJ7_fill_53178 5 = .ok (.iload_n 2, 1) := by decide +kernel
theorem dJ7_fill_53178_6 : decode cJ7_fill_53178 6 = .ok (.iload_n 3, 1) := by decide +kernel
theorem dJ7_fill_53178_7 : decode cJ7_fill_53178 7 = .ok (.if_icmp .ge 13, 3) := by decide +kernel
theorem dJ7_fill_53178_10 : decode cJ7_fill_53178 10 = .ok (.aload_n 0, 1) := by decide +kernel
theorem dJ7_fill_53178_11 : decode cJ7_fill_53178 11 = .ok (.iload_n 2, 1) := by decide +kernel
theorem dJ7_fill_53178_12 : decode cJ7_fill_53178 12 = .ok (.iload_n 1, 1) := by decide +kernel
theorem dJ7_fill_53178_13 : decode cJ7_fill_53178 13 = .ok (.iastore, 1) := by decide +kernel
theorem dJ7_fill_53178_14 : decode cJ7_fill_53178 14 = .ok (.iinc 2 1, 3) := by decide +kernel
theorem dJ7_fill_53178_17 : decode cJ7_fill_53178 17 = .ok (.goto (-12), 3) := by decide +kernel
theorem dJ7_fill_53178_20 : decode cJ7_fill_53178 20 = .ok (.return_, 1) := by decide +kernel
end
section
theorem dX5_init_0 : decode cX5_init 0 = .ok (.aload_n 0, 1) := by decide +kernel
theorem dX5_init_1 : decode cX5_init 1 = .ok (.invokespecial 1, 3) := by decide +kernel
theorem dX5_init_4 : decode cX5_init 4 = .ok (.aload_n 0, 1) := by decide +kernel
theorem dX5_init_5 : decode cX5_init 5 = .ok (.sipush 200, 3) := by decide +kernel
theorem dX5_init_8 : decode cX5_init 8 = .ok (.newarray .int, 2) := by decide +kernel
theorem dX5_init_10 : decode cX5_init 10 = .ok (.putfield 9, 3) := by decide +kernel
theorem dX5_init_13 : decode cX5_init 13 = .ok (.aload_n 0, 1) := by decide +kernel
theorem dX5_init_14 : decode cX5_init 14 = .ok (.sipush 200, 3) := by decide +kernel
theorem dX5_init_17 : decode cX5_init 17 = .ok (.newarray .int, 2) := by decide +kernel
theorem dX5_init_19 : decode cX5_init 19 = .ok (.putfield 13, 3) := by decide +kernel
theorem dX5_init_22 : decode cX5_init 22 = .ok (.aload_n 0, 1) := by decide +kernel
theorem dX5_init_23 : decode cX5_init 23 = .ok (.sipush 200, 3) := by decide +kernel
theorem dX5_init_26 : decode cX5_init 26 = .ok (.newarray .int, 2) := by decide +kernel
theorem dX5_init_28 : decode cX5_init 28 = .ok (.putfield 16, 3) := by decide +kernel
theorem dX5_init_31 : decode cX5_init 31 = .ok (.aload_n 0, 1) := by decide +kernel
theorem dX5_init_32 : decode cX5_init 32 = .ok (.bipush 10, 2) := by decide +kernel
theorem dX5_init_34 : decode cX5_init 34 = .ok (.newarray .int, 2) := by decide +kernel
theorem dX5_init_36 : decode cX5_init 36 = .ok (.putfield 19, 3) := by decide +kernel
theorem dX5_init_39 : decode cX5_init 39 = .ok (.aload_n 0, 1) := by decide +kernel
theorem dX5_init_40 : decode cX5_init 40 = .ok (.iconst 4, 1) := by decide +kernel
theorem dX5_init_41 : decode cX5_init 41 = .ok (.newarray .int, 2) := by decide +kernel
theorem dX5_init_43 : decode cX5_init 43 = .ok (.putfield 22, 3) := by decide +kernel
theorem dX5_init_46 : decode cX5_init 46 = .ok (.aload_n 0, 1) := by decide +kernel
theorem dX5_init_47 : decode cX5_init 47 = .ok (.bipush 8, 2) := by decide +kernel
theorem dX5_init_49 : decode cX5_init 49 = .ok (.newarray .int, 2) := by decide +kernel
theorem dX5_init_51 : decode cX5_init 51 = .ok (.putfield 25, 3) := by decide +kernel
theorem dX5_init_54 : decode cX5_init 54 = .ok (.aload_n 0, 1) := by decide +kernel
theorem dX5_init_55 : decode cX5_init 55 = .ok (.iconst 2, 1) := by decide +kernel
theorem dX5_init_56 : decode cX5_init 56 = .ok (.newarray .int, 2) := by decide +kernel
theorem dX5_init_58 : decode cX5_init 58 = .ok (.putfield 28, 3) := by decide +kernel
theorem dX5_init_61 : decode cX5_init 61 = .ok (.aload_n 0, 1) := by decide +kernel
theorem dX5_init_62 : decode cX5_init 62 = .ok (.bipush 20, 2) := by decide +kernel
theorem dX5_init_64 : decode cX5_init 64 = .ok (.newarray .long, 2) := by decide +kernel
theorem dX5_init_66 : decode cX5_init 66 = .ok (.putfield 31, 3) := by decide +kernel
theorem dX5_init_69 : decode cX5_init 69 = .ok (.aload_n 0, 1) := by decide +kernel
theorem dX5_init_70 : decode cX5_init 70 = .ok (.bipush 20, 2) := by decide +kernel
theorem dX5_init_72 : decode cX5_init 72 = .ok (.newarray .int, 2) := by decide +kernel
theorem dX5_init_74 : decode cX5_init 74 = .ok (.putfield 35, 3) := by decide +kernel
theorem dX5_init_77 : decode cX5_init 77 = .ok (.aload_n 0, 1) := by decide +kernel
theorem dX5_init_78 : decode cX5_init 78 = .ok (.bipush 14, 2) := by decide +kernel
theorem dX5_init_80 : decode cX5_init 80 = .ok (.newarray .int, 2) := by decide +kernel
theorem dX5_init_82 : decode cX5_init 82 = .ok (.putfield 38, 3) := by decide +kernel
theorem dX5_init_85 : decode cX5_init 85 = .ok (.aload_n 0, 1) := by decide +kernel
theorem dX5_init_86 : decode cX5_init 86 = .ok (.bipush 20, 2) := by decide +kernel
theorem dX5_init_88 : decode cX5_init 88 = .ok (.newarray .int, 2) := by decide +kernel
theorem dX5_init_90 : decode cX5_init 90 = .ok (.putfield 41, 3) := by decide +kernel
theorem dX5_init_93 : decode cX5_init 93 = .ok (.aload_n 0, 1) := by decide +kernel
theorem dX5_init_94 : decode cX5_init 94 = .ok (.iconst (-1), 1) := by decide +kernel
theorem dX5_init_95 : decode cX5_init 95 = .ok (.putfield 44, 3) := by decide +kernel
theorem dX5_init_98 : decode cX5_init 98 = .ok (.aload_n 0, 1) := by decide +kernel
theorem dX5_init_99 : decode cX5_init 99 = .ok (.bipush 60, 2) := by decide +kernel
theorem dX5_init_101 : decode cX5_init 101 = .ok (.newarray .int, 2) := by decide +kernel
theorem dX5_init_103 : decode cX5_init 103 = .ok (.putfield 48, 3) := by decide +kernel
theorem dX5_init_106 : decode cX5_init 106 = .ok (.aload_n 0, 1) := by decide +kernel
theorem dX5_init_107 : decode cX5_init 107 = .ok (.bipush 60, 2) := by decide +kernel
theorem dX5_init_109 : decode cX5_init 109 = .ok (.newarray .int, 2) := by decide +kernel
theorem dX5_init_111 : decode cX5_init 111 = .ok (.putfield 51, 3) := by decide +kernel
theorem dX5_init_114 : decode cX5_init 114 = .ok (.aload_n 0, 1) := by decide +kernel
theorem dX5_init_115 : decode cX5_init 115 = .ok (.bipush 60, 2) := by decide +kernel
theorem dX5_init_117 : decode cX5_init 117 = .ok (.newarray .int, 2) := by decide +kernel
theorem dX5_init_119 : decode cX5_init 119 = .ok (.putfield 54, 3) := by decide +kernel
theorem dX5_init_122 : decode cX5_init 122 = .ok (.aload_n 0, 1) := by decide +kernel
theorem dX5_init_123 : decode cX5_init 123 = .ok (.bipush 60, 2) := by decide +kernel
theorem dX5_init_125 : decode cX5_init 125 = .ok (.newarray .int, 2) := by decide +kernel
theorem dX5_init_127 : decode cX5_init 127 = .ok (.putfield 57, 3) := by decide +kernel
theorem dX5_init_130 : decode cX5_init 130 = .ok (.aload_n 0, 1) := by decide +kernel
theorem dX5_init_131 : decode cX5_init 131 = .ok (.bipush 6, 2) := by decide +kernel
theorem dX5_init_133 : decode cX5_init 133 = .ok (.newarray .int, 2) := by decide +kernel
theorem dX5_init_135 : decode cX5_init 135 = .ok (.putfield 60, 3) := by decide +kernel
theorem dX5_init_138 : decode cX5_init 138 = .ok (.aload_n 0, 1) := by decide +kernel
theorem dX5_init_139 : decode cX5_init 139 = .ok (.bipush 6, 2) := by decide +kernel
theorem dX5_init_141 : decode cX5_init 141 = .ok (.newarray .int, 2) := by decide +kernel
theorem dX5_init_143 : decode cX5_init 143 = .ok (.putfield 63, 3) := by decide +kernel
theorem dX5_init_146 : decode cX5_init 146 = .ok (.aload_n 0, 1) := by decide +kernel
theorem dX5_init_147 : decode cX5_init 147 = .ok (.bipush 19, 2) := by decide +kernel
theorem dX5_init_149 : decode cX5_init 149 = .ok (.newarray .int, 2) := by decide +kernel
theorem dX5_init_151 : decode cX5_init 151 = .ok (.putfield 66, 3) := by decide +kernel
theorem dX5_init_154 : decode cX5_init 154 = .ok (.aload_n 0, 1) := by decide +kernel
theorem dX5_init_155 : decode cX5_init 155 = .ok (.sipush 130, 3) := by decide +kernel
theorem dX5_init_158 : decode cX5_init 158 = .ok (.newarray .int, 2) := by decide +kernel
theorem dX5_init_160 : decode cX5_init 160 = .ok (.putfield 69, 3) := by decide +kernel
theorem dX5_init_163 : decode cX5_init 163 = .ok (.aload_n 0, 1) := by decide +kernel
theorem dX5_init_164 : decode cX5_init 164 = .ok (.sipush 600, 3) := by decide +kernel
theorem dX5_init_167 : decode cX5_init 167 = .ok (.newarray .boolean, 2) := by decide +kernel
theorem dX5_init_169 : decode cX5_init 169 = .ok (.putfield 72, 3) := by decide +kernel
theorem dX5_init_172 : decode cX5_init 172 = .ok (.aload_n 0, 1) := by decide +kernel
theorem dX5_init_173 : decode cX5_init 173 = .ok (.sipush 600, 3) := by decide +kernel
theorem dX5_init_176 : decode cX5_init 176 = .ok (.newarray .int, 2) := by decide +kernel
theorem dX5_init_178 : decode cX5_init 178 = .ok (.putfield 76, 3) := by decide +kernel
theorem dX5_init_181 : decode cX5_init 181 = .ok (.aload_n 0, 1) := by decide +kernel
theorem dX5_init_182 : decode cX5_init 182 = .ok (.bipush 7, 2) := by decide +kernel
theorem dX5_init_184 : decode cX5_init 184 = .ok (.newarray .int, 2) := by decide +kernel
theorem dX5_init_186 : decode cX5_init 186 = .ok (.putfield 79, 3) := by decide +kernel
theorem dX5_init_189 : decode cX5_init 189 = .ok (.aload_n 0, 1) := by decide +kernel
theorem dX5_init_190 : decode cX5_init 190 = .ok (.bipush 64, 2) := by decide +kernel
theorem dX5_init_192 : decode cX5_init 192 = .ok (.newarray .int, 2) := by decide +kernel
theorem dX5_init_194 : decode cX5_init 194 = .ok (.putfield 82, 3) := by decide +kernel
theorem dX5_init_197 : decode cX5_init 197 = .ok (.aload_n 0, 1) := by decide +kernel
theorem dX5_init_198 : decode cX5_init 198 = .ok (.bipush 64, 2) := by decide +kernel
theorem dX5_init_200 : decode cX5_init 200 = .ok (.newarray .int, 2) := by decide +kernel
theorem dX5_init_202 : decode cX5_init 202 = .ok (.putfield 85, 3) := by decide +kernel
theorem dX5_init_205 : decode cX5_init 205 = .ok (.aload_n 0, 1) := by decide +kernel
theorem dX5_init_206 : decode cX5_init 206 = .ok (.bipush 84, 2) := by decide +kernel
theorem dX5_init_208 : decode cX5_init 208 = .ok (.newarray .int, 2) := by decide +kernel
theorem dX5_init_210 : decode cX5_init 210 = .ok (.putfield 88, 3) := by decide +kernel
theorem dX5_init_213 : decode cX5_init 213 = .ok (.iconst 0, 1) := by decide +kernel
theorem dX5_init_214 : decode cX5_init 214 = .ok (.istore_n 1, 1) := by decide +kernel
theorem dX5_init_215 : decode cX5_init 215 = .ok (.iload_n 1, 1) := by decide +kernel
theorem dX5_init_216 : decode cX5_init 216 = .ok (.bipush 6, 2) := by decide +kernel
theorem dX5_init_218 : decode cX5_init 218 = .ok (.if_icmp .ge 16, 3) := by decide +kernel
theorem dX5_init_221 : decode cX5_init 221 = .ok (.aload_n 0, 1) := by decide +kernel
theorem dX5_init_222 : decode cX5_init 222 = .ok (.getfield 79, 3) := by decide +kernel
theorem dX5_init_225 : decode cX5_init 225 = .ok (.iload_n 1, 1) := by decide +kernel
theorem dX5_init_226 : decode cX5_init 226 = .ok (.iconst 3, 1) := by decide +kernel
theorem dX5_init_227 : decode cX5_init 227 = .ok (.iastore, 1) := by decide +kernel
theorem dX5_init_228 : decode cX5_init 228 = .ok (.iinc 1 1, 3) := by decide +kernel
theorem dX5_init_231 : decode cX5_init 231 = .ok (.goto (-16), 3) := by decide +kernel
theorem dX5_init_234 : decode cX5_init 234 = .ok (.aload_n 0, 1) := by decide +kernel
theorem dX5_init_235 : decode cX5_init 235 = .ok (.getfield 79, 3) := by decide +kernel
theorem dX5_init_238 : decode cX5_init 238 = .ok (.bipush 6, 2) := by decide +kernel
theorem dX5_init_240 : decode cX5_init 240 = .ok (.iconst 5, 1) := by decide +kernel
theorem dX5_init_241 : decode cX5_init 241 = .ok (.iastore, 1) := by decide +kernel
theorem dX5_init_242 : decode cX5_init 242 = .ok (.return_, 1) := by decide +kernel
theorem dX5_within_0 : decode cX5_within 0 = .ok (.iload_n 0, 1) := by decide +kernel
theorem dX5_within_1 : decode cX5_within 1 = .ok (.iload_n 1, 1) := by decide +kernel
theorem dX5_within_2 : decode cX5_within 2 = .ok (.if_icmp .lt 12, 3) := by decide +kernel
theorem dX5_within_5 : decode cX5_within 5 = .ok (.iload_n 0, 1) := by decide +kernel
theorem dX5_within_6 : decode cX5_within 6 = .ok (.iload_n 2, 1) := by decide +kernel
theorem dX5_within_7 : decode cX5_within 7 = .ok (.if_icmp .gt 7, 3) := by decide +kernel
theorem dX5_within_10 : decode cX5_within 10 = .ok (.iconst 1, 1) := by decide +kernel
theorem dX5_within_11 : decode cX5_within 11 = .ok (.goto 4, 3) := by decide +kernel
theorem dX5_within_14 : decode cX5_within 14 = .ok (.iconst 0, 1) := by decide +kernel
theorem dX5_within_15 : decode cX5_within 15 = .ok (.ireturn, 1) := by decide +kernel
theorem dX5_isProgram_0 : decode cX5_isProgram 0 = .ok (.iload_n 1, 1) := by decide +kernel
theorem dX5_isProgram_1 : decode cX5_isProgram 1 = .ok (.ifCond .lt 15, 3) := by decide +kernel
theorem dX5_isProgram_4 : decode cX5_isProgram 4 = .ok (.iload_n 1, 1) := by decide +kernel
theorem dX5_isProgram_5 : decode cX5_isProgram 5 = .ok (.aload_n 0, 1) := by decide +kernel
theorem dX5_isProgram_6 : decode cX5_isProgram 6 = .ok (.getfield 91, 3) := by decide +kernel
theorem dX5_isProgram_9 : decode cX5_isProgram 9 = .ok (.if_icmp .ge 7, 3) := by decide +kernel
theorem dX5_isProgram_12 : decode cX5_isProgram 12 = .ok (.iconst 1, 1) := by decide +kernel
theorem dX5_isProgram_13 : decode cX5_isProgram 13 = .ok (.goto 4, 3) := by decide +kernel
theorem dX5_isProgram_16 : decode cX5_isProgram 16 = .ok (.iconst 0, 1) := by decide +kernel
theorem dX5_isProgram_17 : decode cX5_isProgram 17 = .ok (.ireturn, 1) := by decide +kernel
theorem dX5_isQuestion_0 : decode cX5_isQuestion 0 = .ok (.iload_n 1, 1) := by decide +kernel
theorem dX5_isQuestion_1 : decode cX5_isQuestion 1 = .ok (.ifCond .lt 15, 3) := by decide +kernel
theorem dX5_isQuestion_4 : decode cX5_isQuestion 4 = .ok (.iload_n 1, 1) := by decide +kernel
theorem dX5_isQuestion_5 : decode cX5_isQuestion 5 = .ok (.aload_n 0, 1) := by decide +kernel
theorem dX5_isQuestion_6 : decode cX5_isQuestion 6 = .ok (.getfield 94, 3) := by decide +kernel
theorem dX5_isQuestion_9 : decode cX5_isQuestion 9 = .ok (.if_icmp .ge 7, 3) := by decide +kernel
theorem dX5_isQuestion_12 : decode cX5_isQuestion 12 = .ok (.iconst 1, 1) := by decide +kernel
theorem dX5_isQuestion_13 : decode cX5_isQuestion 13 = .ok (.goto 4, 3) := by decide +kernel
theorem dX5_isQuestion_16 : decode cX5_isQuestion 16 = .ok (.iconst 0, 1) := by decide +kernel
theorem dX5_isQuestion_17 : decode cX5_isQuestion 17 = .ok (.ireturn, 1) := by decide +kernel
theorem dX5_program_0 : decode cX5_program 0 = .ok (.aload_n 0, 1) := by decide +kernel
theorem dX5_program_1 : decode cX5_program 1 = .ok (.getfield 91, 3) := by decide +kernel
theorem dX5_program_4 : decode cX5_program 4 = .ok (.bipush 10, 2) := by decide +kernel
theorem dX5_program_6 : decode cX5_program 6 = .ok (.if_icmp .ne 6, 3) := by decide +kernel
theorem dX5_program_9 : decode cX5_program 9 = .ok (.bipush (-2), 2) := by decide +kernel
theorem dX5_program_11 : decode cX5_program 11 = .ok (.ireturn, 1) := by decide +kernel
theorem dX5_program_12 : decode cX5_program 12 = .ok (.aload_n 0, 1) := by decide +kernel
theorem dX5_program_13 : decode cX5_program 13 = .ok (.dup, 1) := by decide +kernel
theorem dX5_program_14 : decode cX5_program 14 = .ok (.getfield 91, 3) := by decide +kernel
theorem dX5_program_17 : decode cX5_program 17 = .ok (.iconst 1, 1) := by decide +kernel
theorem dX5_program_18 : decode cX5_program 18 = .ok (.iadd, 1) := by decide +kernel
theorem dX5_program_19 : decode cX5_program 19 = .ok (.putfield 91, 3) := by decide +kernel
theorem dX5_program_22 : decode cX5_program 22 = .ok (.aload_n 0, 1) := by decide +kernel
theorem dX5_program_23 : decode cX5_program 23 = .ok (.getfield 91, 3) := by decide +kernel
theorem dX5_program_26 : decode cX5_program 26 = .ok (.iconst 1, 1) := by decide +kernel
theorem dX5_program_27 : decode cX5_program 27 = .ok (.isub, 1) := by decide +kernel
theorem dX5_program_28 : decode cX5_program 28 = .ok (.ireturn, 1) := by decide +kernel
theorem dX5_mayBe_0 : decode cX5_mayBe 0 = .ok (.iload_n 1, 1) := by decide +kernel
theorem dX5_mayBe_1 : decode cX5_mayBe 1 = .ok (.iconst 0, 1) := by decide +kernel
theorem dX5_mayBe_2 : decode cX5_mayBe 2 = .ok (.iconst 3, 1) := by decide +kernel
theorem dX5_mayBe_3 : decode cX5_mayBe 3 = .ok (.invokestatic 97, 3) := by decide +kernel
theorem dX5_mayBe_6 : decode cX5_mayBe 6 = .ok (.istore_n 3, 1) := by decide +kernel
theorem dX5_mayBe_7 : decode cX5_mayBe 7 = .ok (.iload_n 0, 1) := by decide +kernel
theorem dX5_mayBe_8 : decode cX5_mayBe 8 = .ok (.tableswitch 193 0 9 #[56, 77, 77, 77, 96, 77, 110, 124, 149, 169], 56) := by decide +kernel
theorem dX5_mayBe_64 : decode cX5_mayBe 64 = .ok (.iload_n 3, 1) := by decide +kernel
theorem dX5_mayBe_65 : decode cX5_mayBe 65 = .ok (.ifCond .eq 18, 3) := by decide +kernel
theorem dX5_mayBe_68 : decode cX5_mayBe 68 = .ok (.iload_n 2, 1) := by decide +kernel
theorem dX5_mayBe_69 : decode cX5_mayBe 69 = .ok (.bipush (-99), 2) := by decide +kernel
theorem dX5_mayBe_71 : decode cX5_mayBe 71 = .ok (.bipush 99, 2) := by decide +kernel
theorem dX5_mayBe_73 : decode cX5_mayBe 73 = .ok (.invokestatic 97, 3) := by decide +kernel
theorem dX5_mayBe_76 : decode cX5_mayBe 76 = .ok (.ifCond .eq 7, 3) := by decide +kernel
theorem dX5_mayBe_79 : decode cX5_mayBe 79 = .ok (.iconst 1, 1) := by decide +kernel
theorem dX5_mayBe_80 : decode cX5_mayBe 80 = .ok (.goto 4, 3) := by decide +kernel
theorem dX5_mayBe_83 : decode cX5_mayBe 83 = .ok (.iconst 0, 1) := by decide +kernel
theorem dX5_mayBe_84 : decode cX5_mayBe 84 = .ok (.ireturn, 1) := by decide +kernel
theorem dX5_mayBe_85 : decode cX5_mayBe 85 = .ok (.iload_n 3, 1) := by decide +kernel
theorem dX5_mayBe_86 : decode cX5_mayBe 86 = .ok (.ifCond .eq 16, 3) := by decide +kernel
theorem dX5_mayBe_89 : decode cX5_mayBe 89 = .ok (.iload_n 2, 1) := by decide +kernel
theorem dX5_mayBe_90 : decode cX5_mayBe 90 = .ok (.iconst 0, 1) := by decide +kernel
theorem dX5_mayBe_91 : decode cX5_mayBe 91 = .ok (.iconst 3, 1) := by decide +kernel
theorem dX5_mayBe_92 : decode cX5_mayBe 92 = .ok (.invokestatic 97, 3) := by decide +kernel
theorem dX5_mayBe_95 : decode cX5_mayBe 95 = .ok (.ifCond .eq 7, 3) := by decide +kernel
theorem dX5_mayBe_98 : decode cX5_mayBe 98 = .ok (.iconst 1, 1) := by decide +kernel
theorem dX5_mayBe_99 : decode cX5_mayBe 99 = .ok (.goto 4, 3) := by decide +kernel
theorem dX5_mayBe_102 : decode cX5_mayBe 102 = .ok (.iconst 0, 1) := by decide +kernel
theorem dX5_mayBe_103 : decode cX5_mayBe 103 = .ok (.ireturn, 1) := by decide +kernel
theorem dX5_mayBe_104 : decode cX5_mayBe 104 = .ok (.iload_n 3, 1) := by decide +kernel
theorem dX5_mayBe_105 : decode cX5_mayBe 105 = .ok (.ifCond .eq 11, 3) := by decide +kernel
theorem dX5_mayBe_108 : decode cX5_mayBe 108 = .ok (.iload_n 2, 1) := by decide +kernel
theorem dX5_mayBe_109 : decode cX5_mayBe 109 = .ok (.ifCond .ne 7, 3) := by decide +kernel
theorem dX5_mayBe_112 : decode cX5_mayBe 112 = .ok (.iconst 1, 1) := by decide +kernel
theorem dX5_mayBe_113 : decode cX5_mayBe 113 = .ok (.goto 4, 3) := by decide +kernel
theorem dX5_mayBe_116 : decode cX5_mayBe 116 = .ok (.iconst 0, 1) := by decide +kernel
theorem dX5_mayBe_117 : decode cX5_mayBe 117 = .ok (.ireturn, 1) := by decide +kernel
theorem dX5_mayBe_118 : decode cX5_mayBe 118 = .ok (.iload_n 1, 1) := by decide +kernel
theorem dX5_mayBe_119 : decode cX5_mayBe 119 = .ok (.ifCond .ne 11, 3) := by decide +kernel
theorem dX5_mayBe_122 : decode cX5_mayBe 122 = .ok (.iload_n 2, 1) := by decide +kernel
theorem dX5_mayBe_123 : decode cX5_mayBe 123 = .ok (.ifCond .ne 7, 3) := by decide +kernel
theorem dX5_mayBe_126 : decode cX5_mayBe 126 = .ok (.iconst 1, 1) := by decide +kernel
theorem dX5_mayBe_127 : decode cX5_mayBe 127 = .ok (.goto 4, 3) := by decide +kernel
theorem dX5_mayBe_130 : decode cX5_mayBe 130 = .ok (.iconst 0, 1) := by decide +kernel
theorem dX5_mayBe_131 : decode cX5_mayBe 131 = .ok (.ireturn, 1) := by decide +kernel
theorem dX5_mayBe_132 : decode cX5_mayBe 132 = .ok (.iload_n 1, 1) := by decide +kernel
theorem dX5_mayBe_133 : decode cX5_mayBe 133 = .ok (.iconst 0, 1) := by decide +kernel
theorem dX5_mayBe_134 : decode cX5_mayBe 134 = .ok (.bipush 7, 2) := by decide +kernel
theorem dX5_mayBe_136 : decode cX5_mayBe 136 = .ok (.invokestatic 97, 3) := by decide +kernel
theorem dX5_mayBe_139 : decode cX5_mayBe 139 = .ok (.ifCond .eq 16, 3) := by decide +kernel
theorem dX5_mayBe_142 : decode cX5_mayBe 142 = .ok (.iload_n 2, 1) := by decide +kernel
theorem dX5_mayBe_143 : decode cX5_mayBe 143 = .ok (.iconst 0, 1) := by decide +kernel
theorem dX5_mayBe_144 : decode cX5_mayBe 144 = .ok (.iconst 3, 1) := by decide +kernel
theorem dX5_mayBe_145 : decode cX5_mayBe 145 = .ok (.invokestatic 97, 3) := by decide +kernel
theorem dX5_mayBe_148 : decode cX5_mayBe 148 = .ok (.ifCond .eq 7, 3) := by decide +kernel
theorem dX5_mayBe_151 : decode cX5_mayBe 151 = .ok (.iconst 1, 1) := by decide +kernel
theorem dX5_mayBe_152 : decode cX5_mayBe 152 = .ok (.goto 4, 3) := by decide +kernel
theorem dX5_mayBe_155 : decode cX5_mayBe 155 = .ok (.iconst 0, 1) := by decide +kernel
theorem dX5_mayBe_156 : decode cX5_mayBe 156 = .ok (.ireturn, 1) := by decide +kernel
theorem dX5_mayBe_157 : decode cX5_mayBe 157 = .ok (.iload_n 3, 1) := by decide +kernel
theorem dX5_mayBe_158 : decode cX5_mayBe 158 = .ok (.ifCond .eq 17, 3) := by decide +kernel
theorem dX5_mayBe_161 : decode cX5_mayBe 161 = .ok (.iload_n 2, 1) := by decide +kernel
theorem dX5_mayBe_162 : decode cX5_mayBe 162 = .ok (.iconst 0, 1) := by decide +kernel
theorem dX5_mayBe_163 : decode cX5_mayBe 163 = .ok (.bipush 7, 2) := by decide +kernel
theorem dX5_mayBe_165 : decode cX5_mayBe 165 = .ok (.invokestatic 97, 3) := by decide +kernel
theorem dX5_mayBe_168 : decode cX5_mayBe 168 = .ok (.ifCond .eq 7, 3) := by decide +kernel
theorem dX5_mayBe_171 : decode cX5_mayBe 171 = .ok (.iconst 1, 1) := by decide +kernel
theorem dX5_mayBe_172 : decode cX5_mayBe 172 = .ok (.goto 4, 3) := by decide +kernel
theorem dX5_mayBe_175 : decode cX5_mayBe 175 = .ok (.iconst 0, 1) := by decide +kernel
theorem dX5_mayBe_176 : decode cX5_mayBe 176 = .ok (.ireturn, 1) := by decide +kernel
theorem dX5_mayBe_177 : decode cX5_mayBe 177 = .ok (.iload_n 1, 1) := by decide +kernel
theorem dX5_mayBe_178 : decode cX5_mayBe 178 = .ok (.iconst 0, 1) := by decide +kernel
theorem dX5_mayBe_179 : decode cX5_mayBe 179 = .ok (.iconst 1, 1) := by decide +kernel
theorem dX5_mayBe_180 : decode cX5_mayBe 180 = .ok (.invokestatic 97, 3) := by decide +kernel
theorem dX5_mayBe_183 : decode cX5_mayBe 183 = .ok (.ifCond .eq 16, 3) := by decide +kernel
theorem dX5_mayBe_186 : decode cX5_mayBe 186 = .ok (.iload_n 2, 1) := by decide +kernel
theorem dX5_mayBe_187 : decode cX5_mayBe 187 = .ok (.iconst 0, 1) := by decide +kernel
theorem dX5_mayBe_188 : decode cX5_mayBe 188 = .ok (.iconst 1, 1) := by decide +kernel
theorem dX5_mayBe_189 : decode cX5_mayBe 189 = .ok (.invokestatic 97, 3) := by decide +kernel
theorem dX5_mayBe_192 : decode cX5_mayBe 192 = .ok (.ifCond .eq 7, 3) := by decide +kernel
theorem dX5_mayBe_195 : decode cX5_mayBe 195 = .ok (.iconst 1, 1) := by decide +kernel
theorem dX5_mayBe_196 : decode cX5_mayBe 196 = .ok (.goto 4, 3) := by decide +kernel
theorem dX5_mayBe_199 : decode cX5_mayBe 199 = .ok (.iconst 0, 1) := by decide +kernel
theorem dX5_mayBe_200 : decode cX5_mayBe 200 = .ok (.ireturn, 1) := by decide +kernel
theorem dX5_mayBe_201 : decode cX5_mayBe 201 = .ok (.iconst 0, 1) := by decide +kernel
theorem dX5_mayBe_202 : decode cX5_mayBe 202 = .ok (.ireturn, 1) := by decide +kernel
theorem dX5_openAhead_0 : decode cX5_openAhead 0 = .ok (.iconst 0, 1) := by decide +kernel
theorem dX5_openAhead_1 : decode cX5_openAhead 1 = .ok (.istore_n 3, 1) := by decide +kernel
theorem dX5_openAhead_2 : decode cX5_openAhead 2 = .ok (.iconst 0, 1) := by decide +kernel
theorem dX5_openAhead_3 : decode cX5_openAhead 3 = .ok (.istore 4, 2) := by decide +kernel
theorem dX5_openAhead_5 : decode cX5_openAhead 5 = .ok (.iload 4, 2) := by decide +kernel
theorem dX5_openAhead_7 : decode cX5_openAhead 7 = .ok (.iload_n 2, 1) := by decide +kernel
theorem dX5_openAhead_8 : decode cX5_openAhead 8 = .ok (.if_icmp .ge 54, 3) := by decide +kernel
theorem dX5_openAhead_11 : decode cX5_openAhead 11 = .ok (.aload_n 0, 1) := by decide +kernel
theorem dX5_openAhead_12 : decode cX5_openAhead 12 = .ok (.getfield 9, 3) := by decide +kernel
theorem dX5_openAhead_15 : decode cX5_openAhead 15 = .ok (.bipush 20, 2) := by decide +kernel
theorem dX5_openAhead_17 : decode cX5_openAhead 17 = .ok (.iload_n 1, 1) := by decide +kernel
theorem dX5_openAhead_18 : decode cX5_openAhead 18 = .ok (.imul, 1) := by decide +kernel
theorem dX5_openAhead_19 : decode cX5_openAhead 19 = .ok (.iload 4, 2) := by decide +kernel
theorem dX5_openAhead_21 : decode cX5_openAhead 21 = .ok (.iadd, 1) := by decide +kernel
theorem dX5_openAhead_22 : decode cX5_openAhead 22 = .ok (.iaload, 1) := by decide +kernel
theorem dX5_openAhead_23 : decode cX5_openAhead 23 = .ok (.istore 5, 2) := by decide +kernel
theorem dX5_openAhead_25 : decode cX5_openAhead 25 = .ok (.iload_n 3, 1) := by decide +kernel
theorem dX5_openAhead_26 : decode cX5_openAhead 26 = .ok (.iload 5, 2) := by decide +kernel
theorem dX5_openAhead_28 : decode cX5_openAhead 28 = .ok (.iconst 4, 1) := by decide +kernel
theorem dX5_openAhead_29 : decode cX5_openAhead 29 = .ok (.if_icmp .eq 9, 3) := by decide +kernel
theorem dX5_openAhead_32 : decode cX5_openAhead 32 = .ok (.iload 5, 2) := by decide +kernel
theorem dX5_openAhead_34 : decode cX5_openAhead 34 = .ok (.iconst 5, 1) := by decide +kernel
theorem dX5_openAhead_35 : decode cX5_openAhead 35 = .ok (.if_icmp .ne 7, 3) := by decide +kernel
theorem dX5_openAhead_38 : decode cX5_openAhead 38 = .ok (.iconst 1, 1) := by decide +kernel
theorem dX5_openAhead_39 : decode cX5_openAhead 39 = .ok (.goto 15, 3) := by decide +kernel
theorem dX5_openAhead_42 : decode cX5_openAhead 42 = .ok (.iload 5, 2) := by decide +kernel
theorem dX5_openAhead_44 : decode cX5_openAhead 44 = .ok (.bipush 6, 2) := by decide +kernel
theorem dX5_openAhead_46 : decode cX5_openAhead 46 = .ok (.if_icmp .ne 7, 3) := by decide +kernel
theorem dX5_openAhead_49 : decode cX5_openAhead 49 = .ok (.iconst (-1), 1) := by decide +kernel
theorem dX5_openAhead_50 : decode cX5_openAhead 50 = .ok (.goto 4, 3) := by decide +kernel
theorem dX5_openAhead_53 : decode cX5_openAhead 53 = .ok (.iconst 0, 1) := by decide +kernel
theorem dX5_openAhead_54 : decode cX5_openAhead 54 = .ok (.iadd, 1) := by decide +kernel
theorem dX5_openAhead_55 : decode cX5_openAhead 55 = .ok (.istore_n 3, 1) := by decide +kernel
theorem dX5_openAhead_56 : decode cX5_openAhead 56 = .ok (.iinc 4 1, 3) := by decide +kernel
theorem dX5_openAhead_59 : decode cX5_openAhead 59 = .ok (.goto (-54), 3) := by decide +kernel
theorem dX5_openAhead_62 : decode cX5_openAhead 62 = .ok (.iload_n 3, 1) := by decide +kernel
theorem dX5_openAhead_63 : decode cX5_openAhead 63 = .ok (.ireturn, 1) := by decide +kernel
theorem dX5_line_0 : decode cX5_line 0 = .ok (.aload_n 0, 1) := by decide +kernel
theorem dX5_line_1 : decode cX5_line 1 = .ok (.iload_n 1, 1) := by decide +kernel
theorem dX5_line_2 : decode cX5_line 2 = .ok (.invokevirtual 101, 3) := by decide +kernel
theorem dX5_line_5 : decode cX5_line 5 = .ok (.ifCond .eq 13, 3) := by decide +kernel
theorem dX5_line_8 : decode cX5_line 8 = .ok (.iload_n 2, 1) := by decide +kernel
theorem dX5_line_9 : decode cX5_line 9 = .ok (.iload_n 3, 1) := by decide +kernel
theorem dX5_line_10 : decode cX5_line 10 = .ok (.iload 4, 2) := by decide +kernel
theorem dX5_line_12 : decode cX5_line 12 = .ok (.invokestatic 105, 3) := by decide +kernel
theorem dX5_line_15 : decode cX5_line 15 = .ok (.ifCond .ne 5, 3) := by decide +kernel
theorem dX5_line_18 : decode cX5_line 18 = .ok (.iconst (-1), 1) := by decide +kernel
theorem dX5_line_19 : decode cX5_line 19 = .ok (.ireturn, 1) := by decide +kernel
theorem dX5_line_20 : decode cX5_line 20 = .ok (.iconst 0, 1) := by decide +kernel
theorem dX5_line_21 : decode cX5_line 21 = .ok (.istore 5, 2) := by decide +kernel
theorem dX5_line_23 : decode cX5_line 23 = .ok (.iload 5, 2) := by decide +kernel
theorem dX5_line_25 : decode cX5_line 25 = .ok (.aload_n 0, 1) := by decide +kernel
theorem dX5_line_26 : decode cX5_line 26 = .ok (.getfield 94, 3) := by decide +kernel
theorem dX5_line_29 : decode cX5_line 29 = .ok (.if_icmp .ge 23, 3) := by decide +kernel
theorem dX5_line_32 : decode cX5_line 32 = .ok (.aload_n 0, 1) := by decide +kernel
theorem dX5_line_33 : decode cX5_line 33 = .ok (.getfield 48, 3) := by decide +kernel
theorem dX5_line_36 : decode cX5_line 36 = .ok (.iload 5, 2) := by decide +kernel
theorem dX5_line_38 : decode cX5_line 38 = .ok (.iaload, 1) := by decide +kernel
theorem dX5_line_39 : decode cX5_line 39 = .ok (.iload_n 1, 1) := by decide +kernel
theorem dX5_line_40 : decode cX5_line 40 = .ok (.if_icmp .ne 6, 3) := by decide +kernel
theorem dX5_line_43 : decode cX5_line 43 = .ok (.bipush (-3), 2) := by decide +kernel
theorem dX5_line_45 : decode cX5_line 45 = .ok (.ireturn, 1) := by decide +kernel
theorem dX5_line_46 : decode cX5_line 46 = .ok (.iinc 5 1, 3) := by decide +kernel
theorem dX5_line_49 : decode cX5_line 49 = .ok (.goto (-26), 3) := by decide +kernel
theorem dX5_line_52 : decode cX5_line 52 = .ok (.iload_n 2, 1) := by decide +kernel
theorem dX5_line_53 : decode cX5_line 53 = .ok (.bipush 6, 2) := by decide +kernel
theorem dX5_line_55 : decode cX5_line 55 = .ok (.if_icmp .ne 20, 3) := by decide +kernel
theorem dX5_line_58 : decode cX5_line 58 = .ok (.aload_n 0, 1) := by decide +kernel
theorem dX5_line_59 : decode cX5_line 59 = .ok (.iload_n 1, 1) := by decide +kernel
theorem dX5_line_60 : decode cX5_line 60 = .ok (.aload_n 0, 1) := by decide +kernel
theorem dX5_line_61 : decode cX5_line 61 = .ok (.getfield 19, 3) := by decide +kernel
theorem dX5_line_64 : decode cX5_line 64 = .ok (.iload_n 1, 1) := by decide +kernel
theorem dX5_line_65 : decode cX5_line 65 = .ok (.iaload, 1) := by decide +kernel
theorem dX5_line_66 : decode cX5_line 66 = .ok (.invokevirtual 108, 3) := by decide +kernel
theorem dX5_line_69 : decode cX5_line 69 = .ok (.ifCond .ne 6, 3) := by decide +kernel
theorem dX5_line_72 : decode cX5_line 72 = .ok (.bipush (-3), 2) := by decide +kernel
theorem dX5_line_74 : decode cX5_line 74 = .ok (.ireturn, 1) := by decide +kernel
theorem dX5_line_75 : decode cX5_line 75 = .ok (.aload_n 0, 1) := by decide +kernel
theorem dX5_line_76 : decode cX5_line 76 = .ok (.getfield 19, 3) := by decide +kernel
theorem dX5_line_79 : decode cX5_line 79 = .ok (.iload_n 1, 1) := by decide +kernel
theorem dX5_line_80 : decode cX5_line 80 = .ok (.iaload, 1) := by decide +kernel
theorem dX5_line_81 : decode cX5_line 81 = .ok (.bipush 20, 2) := by decide +kernel
theorem dX5_line_83 : decode cX5_line 83 = .ok (.if_icmp .ne 6, 3) := by decide +kernel
theorem dX5_line_86 : decode cX5_line 86 = .ok (.bipush (-2), 2) := by decide +kernel
theorem dX5_line_88 : decode cX5_line 88 = .ok (.ireturn, 1) := by decide +kernel
theorem dX5_line_89 : decode cX5_line 89 = .ok (.bipush 20, 2) := by decide +kernel
theorem dX5_line_91 : decode cX5_line 91 = .ok (.iload_n 1, 1) := by decide +kernel
theorem dX5_line_92 : decode cX5_line 92 = .ok (.imul, 1) := by decide +kernel
theorem dX5_line_93 : decode cX5_line 93 = .ok (.aload_n 0, 1) := by decide +kernel
theorem dX5_line_94 : decode cX5_line 94 = .ok (.getfield 19, 3) := by decide +kernel
theorem dX5_line_97 : decode cX5_line 97 = .ok (.iload_n 1, 1) := by decide +kernel
theorem dX5_line_98 : decode cX5_line 98 = .ok (.iaload, 1) := by decide +kernel
theorem dX5_line_99 : decode cX5_line 99 = .ok (.iadd, 1) := by decide +kernel
theorem dX5_line_100 : decode cX5_line 100 = .ok (.istore 5, 2) := by decide +kernel
theorem dX5_line_102 : decode cX5_line 102 = .ok (.aload_n 0, 1) := by decide +kernel
theorem dX5_line_103 : decode cX5_line 103 = .ok (.getfield 9, 3) := by decide +kernel
theorem dX5_line_106 : decode cX5_line 106 = .ok (.iload 5, 2) := by decide +kernel
theorem dX5_line_108 : decode cX5_line 108 = .ok (.iload_n 2, 1) := by decide +kernel
theorem dX5_line_109 : decode cX5_line 109 = .ok (.iastore, 1) := by decide +kernel
theorem dX5_line_110 : decode cX5_line 110 = .ok (.aload_n 0, 1) := by decide +kernel
theorem dX5_line_111 : decode cX5_line 111 = .ok (.getfield 13, 3) := by decide +kernel
theorem dX5_line_114 : decode cX5_line 114 = .ok (.iload 5, 2) := by decide +kernel
theorem dX5_line_116 : decode cX5_line 116 = .ok (.iload_n 3, 1) := by decide +kernel
theorem dX5_line_117 : decode cX5_line 117 = .ok (.iastore, 1) := by decide +kernel
theorem dX5_line_118 : decode cX5_line 118 = .ok (.aload_n 0, 1) := by decide +kernel
theorem dX5_line_119 : decode cX5_line 119 = .ok (.getfield 16, 3) := by decide +kernel
theorem dX5_line_122 : decode cX5_line 122 = .ok (.iload 5, 2) := by decide +kernel
theorem dX5_line_124 : decode cX5_line 124 = .ok (.iload 4, 2) := by decide +kernel
theorem dX5_line_126 : decode cX5_line 126 = .ok (.iastore, 1) := by decide +kernel
theorem dX5_line_127 : decode cX5_line 127 = .ok (.aload_n 0, 1) := by decide +kernel
theorem dX5_line_128 : decode cX5_line 128 = .ok (.getfield 19, 3) := by decide +kernel
theorem dX5_line_131 : decode cX5_line 131 = .ok (.iload_n 1, 1) := by decide +kernel
theorem dX5_line_132 : decode cX5_line 132 = .ok (.dup2, 1) := by decide +kernel
theorem dX5_line_133 : decode cX5_line 133 = .ok (.iaload, 1) := by decide +kernel
theorem dX5_line_134 : decode cX5_line 134 = .ok (.iconst 1, 1) := by decide +kernel
theorem dX5_line_135 : decode cX5_line 135 = .ok (.iadd, 1) := by decide +kernel
theorem dX5_line_136 : decode cX5_line 136 = .ok (.iastore, 1) := by decide +kernel
theorem dX5_line_137 : decode cX5_line 137 = .ok (.aload_n 0, 1) := by decide +kernel
theorem dX5_line_138 : decode cX5_line 138 = .ok (.getfield 19, 3) := by decide +kernel
theorem dX5_line_141 : decode cX5_line 141 = .ok (.iload_n 1, 1) := by decide +kernel
theorem dX5_line_142 : decode cX5_line 142 = .ok (.iaload, 1) := by decide +kernel
theorem dX5_line_143 : decode cX5_line 143 = .ok (.iconst 1, 1) := by decide +kernel
theorem dX5_line_144 : decode cX5_line 144 = .ok (.isub, 1) := by decide +kernel
theorem dX5_line_145 : decode cX5_line 145 = .ok (.ireturn, 1) := by decide +kernel
theorem dX5_about_0 : decode cX5_about 0 = .ok (.aload_n 0, 1) := by decide +kernel
theorem dX5_about_1 : decode cX5_about 1 = .ok (.iload_n 1, 1) := by decide +kernel
theorem dX5_about_2 : decode cX5_about 2 = .ok (.invokevirtual 101, 3) := by decide +kernel
theorem dX5_about_5 : decode cX5_about 5 = .ok (.ifCond .eq 26, 3) := by decide +kernel
theorem dX5_about_8 : decode cX5_about 8 = .ok (.iload_n 2, 1) := by decide +kernel
theorem dX5_about_9 : decode cX5_about 9 = .ok (.ifCond .lt 22, 3) := by decide +kernel
theorem dX5_about_12 : decode cX5_about 12 = .ok (.iload_n 2, 1) := by decide +kernel
theorem dX5_about_13 : decode cX5_about 13 = .ok (.aload_n 0, 1) := by decide +kernel
theorem dX5_about_14 : decode cX5_about 14 = .ok (.getfield 19, 3) := by decide +kernel
theorem dX5_about_17 : decode cX5_about 17 = .ok (.iload_n 1, 1) := by decide +kernel
theorem dX5_about_18 : decode cX5_about 18 = .ok (.iaload, 1) := by decide +kernel
theorem dX5_about_19 : decode cX5_about 19 = .ok (.if_icmp .ge 12, 3) := by decide +kernel
theorem dX5_about_22 : decode cX5_about 22 = .ok (.iload_n 3, 1) := by decide +kernel
theorem dX5_about_23 : decode cX5_about 23 = .ok (.iconst 0, 1) := by decide +kernel
theorem dX5_about_24 : decode cX5_about 24 = .ok (.iconst 3, 1) := by decide +kernel
theorem dX5_about_25 : decode cX5_about 25 = .ok (.invokestatic 97, 3) := by decide +kernel
theorem dX5_about_28 : decode cX5_about 28 = .ok (.ifCond .ne 6, 3) := by decide +kernel
theorem dX5_about_31 : decode cX5_about 31 = .ok (.ldc 112, 2) := by decide +kernel
theorem dX5_about_33 : decode cX5_about 33 = .ok (.ireturn, 1) := by decide +kernel
theorem dX5_about_34 : decode cX5_about 34 = .ok (.bipush 20, 2) := by decide +kernel
theorem dX5_about_36 : decode cX5_about 36 = .ok (.iload_n 1, 1) := by decide +kernel
theorem dX5_about_37 : decode cX5_about 37 = .ok (.imul, 1) := by decide +kernel
theorem dX5_about_38 : decode cX5_about 38 = .ok (.iload_n 2, 1) := by decide +kernel
theorem dX5_about_39 : decode cX5_about 39 = .ok (.iadd, 1) := by decide +kernel
theorem dX5_about_40 : decode cX5_about 40 = .ok (.istore 4, 2) := by decide +kernel
theorem dX5_about_42 : decode cX5_about 42 = .ok (.iload_n 3, 1) := by decide +kernel
theorem dX5_about_43 : decode cX5_about 43 = .ok (.ifCond .ne 13, 3) := by decide +kernel
theorem dX5_about_46 : decode cX5_about 46 = .ok (.aload_n 0, 1) := by decide +kernel
theorem dX5_about_47 : decode cX5_about 47 = .ok (.getfield 9, 3) := by decide +kernel
theorem dX5_about_50 : decode cX5_about 50 = .ok (.iload 4, 2) := by decide +kernel
theorem dX5_about_52 : decode cX5_about 52 = .ok (.iaload, 1) := by decide +kernel
theorem dX5_about_53 : decode cX5_about 53 = .ok (.goto 39, 3) := by decide +kernel
theorem dX5_about_56 : decode cX5_about 56 = .ok (.iload_n 3, 1) := by decide +kernel
theorem dX5_about_57 : decode cX5_about 57 = .ok (.iconst 1, 1) := by decide +kernel
theorem dX5_about_58 : decode cX5_about 58 = .ok (.if_icmp .ne 13, 3) := by decide +kernel
theorem dX5_about_61 : decode cX5_about 61 = .ok (.aload_n 0, 1) := by decide +kernel
theorem dX5_about_62 : decode cX5_about 62 = .ok (.getfield 13, 3) := by decide +kernel
theorem dX5_about_65 : decode cX5_about 65 = .ok (.iload 4, 2) := by decide +kernel
theorem dX5_about_67 : decode cX5_about 67 = .ok (.iaload, 1) := by decide +kernel
theorem dX5_about_68 : decode cX5_about 68 = .ok (.goto 24, 3) := by decide +kernel
theorem dX5_about_71 : decode cX5_about 71 = .ok (.iload_n 3, 1) := by decide +kernel
theorem dX5_about_72 : decode cX5_about 72 = .ok (.iconst 2, 1) := by decide +kernel
theorem dX5_about_73 : decode cX5_about 73 = .ok (.if_icmp .ne 13, 3) := by decide +kernel
theorem dX5_about_76 : decode cX5_about 76 = .ok (.aload_n 0, 1) := by decide +kernel
theorem dX5_about_77 : decode cX5_about 77 = .ok (.getfield 16, 3) := by decide +kernel
theorem dX5_about_80 : decode cX5_about 80 = .ok (.iload 4, 2) := by decide +kernel
theorem dX5_about_82 : decode cX5_about 82 = .ok (.iaload, 1) := by decide +kernel
theorem dX5_about_83 : decode cX5_about 83 = .ok (.goto 9, 3) := by decide +kernel
theorem dX5_about_86 : decode cX5_about 86 = .ok (.aload_n 0, 1) := by decide +kernel
theorem dX5_about_87 : decode cX5_about 87 = .ok (.iload_n 1, 1) := by decide +kernel
theorem dX5_about_88 : decode cX5_about 88 = .ok (.iload_n 2, 1) := by decide +kernel
theorem dX5_about_89 : decode cX5_about 89 = .ok (.invokevirtual 108, 3) := by decide +kernel
theorem dX5_about_92 : decode cX5_about 92 = .ok (.ireturn, 1) := by decide +kernel
theorem dX5_isWhole_0 : decode cX5_isWhole 0 = .ok (.aload_n 0, 1) := by decide +kernel
theorem dX5_isWhole_1 : decode cX5_isWhole 1 = .ok (.iload_n 1, 1) := by decide +kernel
theorem dX5_isWhole_2 : decode cX5_isWhole 2 = .ok (.aload_n 0, 1) := by decide +kernel
theorem dX5_isWhole_3 : decode cX5_isWhole 3 = .ok (.getfield 19, 3) := by decide +kernel
theorem dX5_isWhole_6 : decode cX5_isWhole 6 = .ok (.iload_n 1, 1) := by decide +kernel
theorem dX5_isWhole_7 : decode cX5_isWhole 7 = .ok (.iaload, 1) := by decide +kernel
theorem dX5_isWhole_8 : decode cX5_isWhole 8 = .ok (.invokevirtual 108, 3) := by decide +kernel
theorem dX5_isWhole_11 : decode cX5_isWhole 11 = .ok (.ifCond .ne 7, 3) := by decide +kernel
theorem dX5_isWhole_14 : decode cX5_isWhole 14 = .ok (.iconst 1, 1) := by decide +kernel
theorem dX5_isWhole_15 : decode cX5_isWhole 15 = .ok (.goto 4, 3) := by decide +kernel
theorem dX5_isWhole_18 : decode cX5_isWhole 18 = .ok (.iconst 0, 1) := by decide +kernel
theorem dX5_isWhole_19 : decode cX5_isWhole 19 = .ok (.ireturn, 1) := by decide +kernel
theorem dX5_whole_0 : decode cX5_whole 0 = .ok (.aload_n 0, 1) := by decide +kernel
theorem dX5_whole_1 : decode cX5_whole 1 = .ok (.iload_n 1, 1) := by decide +kernel
theorem dX5_whole_2 : decode cX5_whole 2 = .ok (.invokevirtual 101, 3) := by decide +kernel
theorem dX5_whole_5 : decode cX5_whole 5 = .ok (.ifCond .eq 19, 3) := by decide +kernel
theorem dX5_whole_8 : decode cX5_whole 8 = .ok (.aload_n 0, 1) := by decide +kernel
theorem dX5_whole_9 : decode cX5_whole 9 = .ok (.iload_n 1, 1) := by decide +kernel
theorem dX5_whole_10 : decode cX5_whole 10 = .ok (.invokevirtual 113, 3) := by decide +kernel
theorem dX5_whole_13 : decode cX5_whole 13 = .ok (.ifCond .eq 7, 3) := by decide +kernel
theorem dX5_whole_16 : decode cX5_whole 16 = .ok (.iconst 1, 1) := by decide +kernel
theorem dX5_whole_17 : decode cX5_whole 17 = .ok (.goto 8, 3) := by decide +kernel
theorem dX5_whole_20 : decode cX5_whole 20 = .ok (.iconst 0, 1) := by decide +kernel
theorem dX5_whole_21 : decode cX5_whole 21 = .ok (.goto 4, 3) := by decide +kernel
theorem dX5_whole_24 : decode cX5_whole 24 = .ok (.iconst (-1), 1) := by decide +kernel
theorem dX5_whole_25 : decode cX5_whole 25 = .ok (.ireturn, 1) := by decide +kernel
theorem dX5_endOf_0 : decode cX5_endOf 0 = .ok (.iconst 1, 1) := by decide +kernel
theorem dX5_endOf_1 : decode cX5_endOf 1 = .ok (.istore_n 3, 1) := by decide +kernel
theorem dX5_endOf_2 : decode cX5_endOf 2 = .ok (.iload_n 2, 1) := by decide +kernel
theorem dX5_endOf_3 : decode cX5_endOf 3 = .ok (.istore 4, 2) := by decide +kernel
theorem dX5_endOf_5 : decode cX5_endOf 5 = .ok (.iload_n 3, 1) := by decide +kernel
theorem dX5_endOf_6 : decode cX5_endOf 6 = .ok (.ifCond .le 54, 3) := by decide +kernel
theorem dX5_endOf_9 : decode cX5_endOf 9 = .ok (.iinc 4 1, 3) := by decide +kernel
theorem dX5_endOf_12 : decode cX5_endOf 12 = .ok (.aload_n 0, 1) := by decide +kernel
theorem dX5_endOf_13 : decode cX5_endOf 13 = .ok (.getfield 9, 3) := by decide +kernel
theorem dX5_endOf_16 : decode cX5_endOf 16 = .ok (.bipush 20, 2) := by decide +kernel
theorem dX5_endOf_18 : decode cX5_endOf 18 = .ok (.iload_n 1, 1) := by decide +kernel
theorem dX5_endOf_19 : decode cX5_endOf 19 = .ok (.imul, 1) := by decide +kernel
theorem dX5_endOf_20 : decode cX5_endOf 20 = .ok (.iload 4, 2) := by decide +kernel
theorem dX5_endOf_22 : decode cX5_endOf 22 = .ok (.iadd, 1) := by decide +kernel
theorem dX5_endOf_23 : decode cX5_endOf 23 = .ok (.iaload, 1) := by decide +kernel
theorem dX5_endOf_24 : decode cX5_endOf 24 = .ok (.istore 5, 2) := by decide +kernel
theorem dX5_endOf_26 : decode cX5_endOf 26 = .ok (.iload_n 3, 1) := by decide +kernel
theorem dX5_endOf_27 : decode cX5_endOf 27 = .ok (.iload 5, 2) := by decide +kernel
theorem dX5_endOf_29 : decode cX5_endOf 29 = .ok (.iconst 4, 1) := by decide +kernel
theorem dX5_endOf_30 : decode cX5_endOf 30 = .ok (.if_icmp .eq 9, 3) := by decide +kernel
theorem dX5_endOf_33 : decode cX5_endOf 33 = .ok (.iload 5, 2) := by decide +kernel
theorem dX5_endOf_35 : decode cX5_endOf 35 = .ok (.iconst 5, 1) := by decide +kernel
theorem dX5_endOf_36 : decode cX5_endOf 36 = .ok (.if_icmp .ne 7, 3) := by decide +kernel
theorem dX5_endOf_39 : decode cX5_endOf 39 = .ok (.iconst 1, 1) := by decide +kernel
theorem dX5_endOf_40 : decode cX5_endOf 40 = .ok (.goto 15, 3) := by decide +kernel
theorem dX5_endOf_43 : decode cX5_endOf 43 = .ok (.iload 5, 2) := by decide +kernel
theorem dX5_endOf_45 : decode cX5_endOf 45 = .ok (.bipush 6, 2) := by decide +kernel
theorem dX5_endOf_47 : decode cX5_endOf 47 = .ok (.if_icmp .ne 7, 3) := by decide +kernel
theorem dX5_endOf_50 : decode cX5_endOf 50 = .ok (.iconst (-1), 1) := by decide +kernel
theorem dX5_endOf_51 : decode cX5_endOf 51 = .ok (.goto 4, 3) := by decide +kernel
theorem dX5_endOf_54 : decode cX5_endOf 54 = .ok (.iconst 0, 1) := by decide +kernel
theorem dX5_endOf_55 : decode cX5_endOf 55 = .ok (.iadd, 1) := by decide +kernel
theorem dX5_endOf_56 : decode cX5_endOf 56 = .ok (.istore_n 3, 1) := by decide +kernel
theorem dX5_endOf_57 : decode cX5_endOf 57 = .ok (.goto (-52), 3) := by decide +kernel
theorem dX5_endOf_60 : decode cX5_endOf 60 = .ok (.iload 4, 2) := by decide +kernel
theorem dX5_endOf_62 : decode cX5_endOf 62 = .ok (.ireturn, 1) := by decide +kernel
theorem dX5_beginOf_0 : decode cX5_beginOf 0 = .ok (.iconst 1, 1) := by decide +kernel
theorem dX5_beginOf_1 : decode cX5_beginOf 1 = .ok (.istore_n 3, 1) := by decide +kernel
theorem dX5_beginOf_2 : decode cX5_beginOf 2 = .ok (.iload_n 2, 1) := by decide +kernel
theorem dX5_beginOf_3 : decode cX5_beginOf 3 = .ok (.istore 4, 2) := by decide +kernel
theorem dX5_beginOf_5 : decode cX5_beginOf 5 = .ok (.iload_n 3, 1) := by decide +kernel
theorem dX5_beginOf_6 : decode cX5_beginOf 6 = .ok (.ifCond .le 54, 3) := by decide +kernel
theorem dX5_beginOf_9 : decode cX5_beginOf 9 = .ok (.iinc 4 (-1), 3) := by decide +kernel
theorem dX5_beginOf_12 : decode cX5_beginOf 12 = .ok (.aload_n 0, 1) := by decide +kernel
theorem dX5_beginOf_13 : decode cX5_beginOf 13 = .ok (.getfield 9, 3) := by decide +kernel
theorem dX5_beginOf_16 : decode cX5_beginOf 16 = .ok (.bipush 20, 2) := by decide +kernel
theorem dX5_beginOf_18 : decode cX5_beginOf 18 = .ok (.iload_n 1, 1) := by decide +kernel
theorem dX5_beginOf_19 : decode cX5_beginOf 19 = .ok (.imul, 1) := by decide +kernel
theorem dX5_beginOf_20 : decode cX5_beginOf 20 = .ok (.iload 4, 2) := by decide +kernel
theorem dX5_beginOf_22 : decode cX5_beginOf 22 = .ok (.iadd, 1) := by decide +kernel
theorem dX5_beginOf_23 : decode cX5_beginOf 23 = .ok (.iaload, 1) := by decide +kernel
theorem dX5_beginOf_24 : decode cX5_beginOf 24 = .ok (.istore 5, 2) := by decide +kernel
theorem dX5_beginOf_26 : decode cX5_beginOf 26 = .ok (.iload_n 3, 1) := by decide +kernel
theorem dX5_beginOf_27 : decode cX5_beginOf 27 = .ok (.iload 5, 2) := by decide +kernel
theorem dX5_beginOf_29 : decode cX5_beginOf 29 = .ok (.iconst 4, 1) := by decide +kernel
theorem dX5_beginOf_30 : decode cX5_beginOf 30 = .ok (.if_icmp .eq 9, 3) := by decide +kernel
theorem dX5_beginOf_33 : decode cX5_beginOf 33 = .ok (.iload 5, 2) := by decide +kernel
theorem dX5_beginOf_35 : decode cX5_beginOf 35 = .ok (.iconst 5, 1) := by decide +kernel
theorem dX5_beginOf_36 : decode cX5_beginOf 36 = .ok (.if_icmp .ne 7, 3) := by decide +kernel
theorem dX5_beginOf_39 : decode cX5_beginOf 39 = .ok (.iconst (-1), 1) := by decide +kernel
theorem dX5_beginOf_40 : decode cX5_beginOf 40 = .ok (.goto 15, 3) := by decide +kernel
theorem dX5_beginOf_43 : decode cX5_beginOf 43 = .ok (.iload 5, 2) := by decide +kernel
theorem dX5_beginOf_45 : decode cX5_beginOf 45 = .ok (.bipush 6, 2) := by decide +kernel
theorem dX5_beginOf_47 : decode cX5_beginOf 47 = .ok (.if_icmp .ne 7, 3) := by decide +kernel
theorem dX5_beginOf_50 : decode cX5_beginOf 50 = .ok (.iconst 1, 1) := by decide +kernel
theorem dX5_beginOf_51 : decode cX5_beginOf 51 = .ok (.goto 4, 3) := by decide +kernel
theorem dX5_beginOf_54 : decode cX5_beginOf 54 = .ok (.iconst 0, 1) := by decide +kernel
theorem dX5_beginOf_55 : decode cX5_beginOf 55 = .ok (.iadd, 1) := by decide +kernel
theorem dX5_beginOf_56 : decode cX5_beginOf 56 = .ok (.istore_n 3, 1) := by decide +kernel
theorem dX5_beginOf_57 : decode cX5_beginOf 57 = .ok (.goto (-52), 3) := by decide +kernel
theorem dX5_beginOf_60 : decode cX5_beginOf 60 = .ok (.iload 4, 2) := by decide +kernel
theorem dX5_beginOf_62 : decode cX5_beginOf 62 = .ok (.ireturn, 1) := by decide +kernel
theorem dX5_has_0 : decode cX5_has 0 = .ok (.iload_n 0, 1) := by decide +kernel
theorem dX5_has_1 : decode cX5_has 1 = .ok (.iload_n 1, 1) := by decide +kernel
theorem dX5_has_2 : decode cX5_has 2 = .ok (.iand, 1) := by decide +kernel
theorem dX5_has_3 : decode cX5_has 3 = .ok (.ifCond .eq 7, 3) := by decide +kernel
theorem dX5_has_6 : decode cX5_has 6 = .ok (.iconst 1, 1) := by decide +kernel
theorem dX5_has_7 : decode cX5_has 7 = .ok (.goto 4, 3) := by decide +kernel
theorem dX5_has_10 : decode cX5_has 10 = .ok (.iconst 0, 1) := by decide +kernel
theorem dX5_has_11 : decode cX5_has 11 = .ok (.ireturn, 1) := by decide +kernel
theorem dX5_runLines_0 : decode cX5_runLines 0 = .ok (.iconst 0, 1) := by decide +kernel
theorem dX5_runLines_1 : decode cX5_runLines 1 = .ok (.istore 6, 2) := by decide +kernel
theorem dX5_runLines_3 : decode cX5_runLines 3 = .ok (.iload 6, 2) := by decide +kernel
theorem dX5_runLines_5 : decode cX5_runLines 5 = .ok (.iconst 4, 1) := by decide +kernel
theorem dX5_runLines_6 : decode cX5_runLines 6 = .ok (.if_icmp .ge 26, 3) := by decide +kernel
theorem dX5_runLines_9 : decode cX5_runLines 9 = .ok (.aload_n 0, 1) := by decide +kernel
theorem dX5_runLines_10 : decode cX5_runLines 10 = .ok (.getfield 22, 3) := by decide +kernel
theorem dX5_runLines_13 : decode cX5_runLines 13 = .ok (.iload 6, 2) := by decide +kernel
theorem dX5_runLines_15 : decode cX5_runLines 15 = .ok (.iload 6, 2) := by decide +kernel
theorem dX5_runLines_17 : decode cX5_runLines 17 = .ok (.ifCond .ne 7, 3) := by decide +kernel
theorem dX5_runLines_20 : decode cX5_runLines 20 = .ok (.iload_n 2, 1) := by decide +kernel
theorem dX5_runLines_21 : decode cX5_runLines 21 = .ok (.goto 4, 3) := by decide +kernel
theorem dX5_runLines_24 : decode cX5_runLines 24 = .ok (.iconst 0, 1) := by decide +kernel
theorem dX5_runLines_25 : decode cX5_runLines 25 = .ok (.iastore, 1) := by decide +kernel
theorem dX5_runLines_26 : decode cX5_runLines 26 = .ok (.iinc 6 1, 3) := by decide +kernel
theorem dX5_runLines_29 : decode cX5_runLines 29 = .ok (.goto (-26), 3) := by decide +kernel
theorem dX5_runLines_32 : decode cX5_runLines 32 = .ok (.iconst 0, 1) := by decide +kernel
theorem dX5_runLines_33 : decode cX5_runLines 33 = .ok (.istore 6, 2) := by decide +kernel
theorem dX5_runLines_35 : decode cX5_runLines 35 = .ok (.iload 6, 2) := by decide +kernel
theorem dX5_runLines_37 : decode cX5_runLines 37 = .ok (.bipush 8, 2) := by decide +kernel
theorem dX5_runLines_39 : decode cX5_runLines 39 = .ok (.if_icmp .ge 17, 3) := by decide +kernel
theorem dX5_runLines_42 : decode cX5_runLines 42 = .ok (.aload_n 0, 1) := by decide +kernel
theorem dX5_runLines_43 : decode cX5_runLines 43 = .ok (.getfield 25, 3) := by decide +kernel
theorem dX5_runLines_46 : decode cX5_runLines 46 = .ok (.iload 6, 2) := by decide +kernel
theorem dX5_runLines_48 : decode cX5_runLines 48 = .ok (.iconst 0, 1) := by decide +kernel
theorem dX5_runLines_49 : decode cX5_runLines 49 = .ok (.iastore, 1) := by decide +kernel
theorem dX5_runLines_50 : decode cX5_runLines 50 = .ok (.iinc 6 1, 3) := by decide +kernel
theorem dX5_runLines_53 : decode cX5_runLines 53 = .ok (.goto (-18), 3) := by decide +kernel
theorem dX5_runLines_56 : decode cX5_runLines 56 = .ok (.aload_n 0, 1) := by decide +kernel
theorem dX5_runLines_57 : decode cX5_runLines 57 = .ok (.getfield 28, 3) := by decide +kernel
theorem dX5_runLines_60 : decode cX5_runLines 60 = .ok (.iconst 0, 1) := by decide +kernel
theorem dX5_runLines_61 : decode cX5_runLines 61 = .ok (.iconst 0, 1) := by decide +kernel
theorem dX5_runLines_62 : decode cX5_runLines 62 = .ok (.iastore, 1) := by decide +kernel
theorem dX5_runLines_63 : decode cX5_runLines 63 = .ok (.aload_n 0, 1) := by decide +kernel
theorem dX5_runLines_64 : decode cX5_runLines 64 = .ok (.getfield 28, 3) := by decide +kernel
theorem dX5_runLines_67 : decode cX5_runLines 67 = .ok (.iconst 1, 1) := by decide +kernel
theorem dX5_runLines_68 : decode cX5_runLines 68 = .ok (.iconst 1, 1) := by decide +kernel
theorem dX5_runLines_69 : decode cX5_runLines 69 = .ok (.iastore, 1) := by decide +kernel
theorem dX5_runLines_70 : decode cX5_runLines 70 = .ok (.aload_n 0, 1) := by decide +kernel
theorem dX5_runLines_71 : decode cX5_runLines 71 = .ok (.iconst 0, 1) := by decide +kernel
theorem dX5_runLines_72 : decode cX5_runLines 72 = .ok (.putfield 116, 3) := by decide +kernel
theorem dX5_runLines_75 : decode cX5_runLines 75 = .ok (.aload_n 0, 1) := by decide +kernel
theorem dX5_runLines_76 : decode cX5_runLines 76 = .ok (.iconst 0, 1) := by decide +kernel
theorem dX5_runLines_77 : decode cX5_runLines 77 = .ok (.putfield 119, 3) := by decide +kernel
theorem dX5_runLines_80 : decode cX5_runLines 80 = .ok (.iconst 0, 1) := by decide +kernel
theorem dX5_runLines_81 : decode cX5_runLines 81 = .ok (.istore 6, 2) := by decide +kernel
theorem dX5_runLines_83 : decode cX5_runLines 83 = .ok (.iload 6, 2) := by decide +kernel
theorem dX5_runLines_85 : decode cX5_runLines 85 = .ok (.bipush 20, 2) := by decide +kernel
theorem dX5_runLines_87 : decode cX5_runLines 87 = .ok (.if_icmp .ge 17, 3) := by decide +kernel
theorem dX5_runLines_90 : decode cX5_runLines 90 = .ok (.aload_n 0, 1) := by decide +kernel
theorem dX5_runLines_91 : decode cX5_runLines 91 = .ok (.getfield 35, 3) := by decide +kernel
theorem dX5_runLines_94 : decode cX5_runLines 94 = .ok (.iload 6, 2) := by decide +kernel
theorem dX5_runLines_96 : decode cX5_runLines 96 = .ok (.iconst 0, 1) := by decide +kernel
theorem dX5_runLines_97 : decode cX5_runLines 97 = .ok (.iastore, 1) := by decide +kernel
theorem dX5_runLines_98 : decode cX5_runLines 98 = .ok (.iinc 6 1, 3) := by decide +kernel
theorem dX5_runLines_101 : decode cX5_runLines 101 = .ok (.goto (-18), 3) := by decide +kernel
theorem dX5_runLines_104 : decode cX5_runLines 104 = .ok (.iconst 0, 1) := by decide +kernel
theorem dX5_runLines_105 : decode cX5_runLines 105 = .ok (.istore 6, 2) := by decide +kernel
theorem dX5_runLines_107 : decode cX5_runLines 107 = .ok (.iload 6, 2) := by decide +kernel
theorem dX5_runLines_109 : decode cX5_runLines 109 = .ok (.aload_n 0, 1) := by decide +kernel
theorem dX5_runLines_110 : decode cX5_runLines 110 = .ok (.getfield 19, 3) := by decide +kernel
theorem dX5_runLines_113 : decode cX5_runLines 113 = .ok (.iload_n 1, 1) := by decide +kernel
theorem dX5_runLines_114 : decode cX5_runLines 114 = .ok (.iaload, 1) := by decide +kernel
theorem dX5_runLines_115 : decode cX5_runLines 115 = .ok (.if_icmp .ge 86, 3) := by decide +kernel
theorem dX5_runLines_118 : decode cX5_runLines 118 = .ok (.aload_n 0, 1) := by decide +kernel
theorem dX5_runLines_119 : decode cX5_runLines 119 = .ok (.getfield 119, 3) := by decide +kernel
theorem dX5_runLines_122 : decode cX5_runLines 122 = .ok (.ifCond .ne 79, 3) := by decide +kernel
theorem dX5_runLines_125 : decode cX5_runLines 125 = .ok (.aload_n 0, 1) := by decide +kernel
theorem dX5_runLines_126 : decode cX5_runLines 126 = .ok (.getfield 116, 3) := by decide +kernel
theorem dX5_runLines_129 : decode cX5_runLines 129 = .ok (.sipush 300, 3) := by decide +kernel
theorem dX5_runLines_132 : decode cX5_runLines 132 = .ok (.if_icmp .ne 11, 3) := by decide +kernel
theorem dX5_runLines_135 : decode cX5_runLines 135 = .ok (.aload_n 0, 1) := by decide +kernel
theorem dX5_runLines_136 : decode cX5_runLines 136 = .ok (.iconst 1, 1) := by decide +kernel
theorem dX5_runLines_137 : decode cX5_runLines 137 = .ok (.putfield 119, 3) := by decide +kernel
theorem dX5_runLines_140 : decode cX5_runLines 140 = .ok (.goto (-33), 3) := by decide +kernel
theorem dX5_runLines_143 : decode cX5_runLines 143 = .ok (.aload_n 0, 1) := by decide +kernel
theorem dX5_runLines_144 : decode cX5_runLines 144 = .ok (.dup, 1) := by decide +kernel
theorem dX5_runLines_145 : decode cX5_runLines 145 = .ok (.getfield 116, 3) := by decide +kernel
theorem dX5_runLines_148 : decode cX5_runLines 148 = .ok (.iconst 1, 1) := by decide +kernel
theorem dX5_runLines_149 : decode cX5_runLines 149 = .ok (.iadd, 1) := by decide +kernel
theorem dX5_runLines_150 : decode cX5_runLines 150 = .ok (.putfield 116, 3) := by decide +kernel
theorem dX5_runLines_153 : decode cX5_runLines 153 = .ok (.aload_n 0, 1) := by decide +kernel
theorem dX5_runLines_154 : decode cX5_runLines 154 = .ok (.getfield 35, 3) := by decide +kernel
theorem dX5_runLines_157 : decode cX5_runLines 157 = .ok (.iload 6, 2) := by decide +kernel
theorem dX5_runLines_159 : decode cX5_runLines 159 = .ok (.dup2, 1) := by decide +kernel
theorem dX5_runLines_160 : decode cX5_runLines 160 = .ok (.iaload, 1) := by decide +kernel
theorem dX5_runLines_161 : decode cX5_runLines 161 = .ok (.iconst 1, 1) := by decide +kernel
theorem dX5_runLines_162 : decode cX5_runLines 162 = .ok (.iadd, 1) := by decide +kernel
theorem dX5_runLines_163 : decode cX5_runLines 163 = .ok (.iastore, 1) := by decide +kernel
theorem dX5_runLines_164 : decode cX5_runLines 164 = .ok (.aload_n 0, 1) := by decide +kernel
theorem dX5_runLines_165 : decode cX5_runLines 165 = .ok (.iload_n 1, 1) := by decide +kernel
theorem dX5_runLines_166 : decode cX5_runLines 166 = .ok (.iload 6, 2) := by decide +kernel
theorem dX5_runLines_168 : decode cX5_runLines 168 = .ok (.iload_n 3, 1) := by decide +kernel
theorem dX5_runLines_169 : decode cX5_runLines 169 = .ok (.iload 6, 2) := by decide +kernel
theorem dX5_runLines_171 : decode cX5_runLines 171 = .ok (.iload 4, 2) := by decide +kernel
theorem dX5_runLines_173 : decode cX5_runLines 173 = .ok (.if_icmp .ne 8, 3) := by decide +kernel
theorem dX5_runLines_176 : decode cX5_runLines 176 = .ok (.iload 5, 2) := by decide +kernel
theorem dX5_runLines_178 : decode cX5_runLines 178 = .ok (.goto 15, 3) := by decide +kernel
theorem dX5_runLines_181 : decode cX5_runLines 181 = .ok (.aload_n 0, 1) := by decide +kernel
theorem dX5_runLines_182 : decode cX5_runLines 182 = .ok (.getfield 16, 3) := by decide +kernel
theorem dX5_runLines_185 : decode cX5_runLines 185 = .ok (.bipush 20, 2) := by decide +kernel
theorem dX5_runLines_187 : decode cX5_runLines 187 = .ok (.iload_n 1, 1) := by decide +kernel
theorem dX5_runLines_188 : decode cX5_runLines 188 = .ok (.imul, 1) := by decide +kernel
theorem dX5_runLines_189 : decode cX5_runLines 189 = .ok (.iload 6, 2) := by decide +kernel
theorem dX5_runLines_191 : decode cX5_runLines 191 = .ok (.iadd, 1) := by decide +kernel
theorem dX5_runLines_192 : decode cX5_runLines 192 = .ok (.iaload, 1) := by decide +kernel
theorem dX5_runLines_193 : decode cX5_runLines 193 = .ok (.invokevirtual 123, 3) := by decide +kernel
theorem dX5_runLines_196 : decode cX5_runLines 196 = .ok (.istore 6, 2) := by decide +kernel
theorem dX5_runLines_198 : decode cX5_runLines 198 = .ok (.goto (-91), 3) := by decide +kernel
theorem dX5_runLines_201 : decode cX5_runLines 201 = .ok (.return_, 1) := by decide +kernel
theorem dX5_doLine_0 : decode cX5_doLine 0 = .ok (.aload_n 0, 1) := by decide +kernel
theorem dX5_doLine_1 : decode cX5_doLine 1 = .ok (.getfield 9, 3) := by decide +kernel
theorem dX5_doLine_4 : decode cX5_doLine 4 = .ok (.bipush 20, 2) := by decide +kernel
theorem dX5_doLine_6 : decode cX5_doLine 6 = .ok (.iload_n 1, 1) := by decide +kernel
theorem dX5_doLine_7 : decode cX5_doLine 7 = .ok (.imul, 1) := by decide +kernel
theorem dX5_doLine_8 : decode cX5_doLine 8 = .ok (.iload_n 2, 1) := by decide +kernel
theorem dX5_doLine_9 : decode cX5_doLine 9 = .ok (.iadd, 1) := by decide +kernel
theorem dX5_doLine_10 : decode cX5_doLine 10 = .ok (.iaload, 1) := by decide +kernel
theorem dX5_doLine_11 : decode cX5_doLine 11 = .ok (.istore 5, 2) := by decide +kernel
theorem dX5_doLine_13 : decode cX5_doLine 13 = .ok (.aload_n 0, 1) := by decide +kernel
theorem dX5_doLine_14 : decode cX5_doLine 14 = .ok (.getfield 13, 3) := by decide +kernel
theorem dX5_doLine_17 : decode cX5_doLine 17 = .ok (.bipush 20, 2) := by decide +kernel
theorem dX5_doLine_19 : decode cX5_doLine 19 = .ok (.iload_n 1, 1) := by decide +kernel
theorem dX5_doLine_20 : decode cX5_doLine 20 = .ok (.imul, 1) := by decide +kernel
theorem dX5_doLine_21 : decode cX5_doLine 21 = .ok (.iload_n 2, 1) := by decide +kernel
theorem dX5_doLine_22 : decode cX5_doLine 22 = .ok (.iadd, 1) := by decide +kernel
theorem dX5_doLine_23 : decode cX5_doLine 23 = .ok (.iaload, 1) := by decide +kernel
theorem dX5_doLine_24 : decode cX5_doLine 24 = .ok (.istore 6, 2) := by decide +kernel
theorem dX5_doLine_26 : decode cX5_doLine 26 = .ok (.iload 5, 2) := by decide +kernel
theorem dX5_doLine_28 : decode cX5_doLine 28 = .ok (.tableswitch 329 0 6 #[44, 57, 100, 126, 179, 252, 322], 44) := by decide +kernel
theorem dX5_doLine_72 : decode cX5_doLine 72 = .ok (.aload_n 0, 1) := by decide +kernel
theorem dX5_doLine_73 : decode cX5_doLine 73 = .ok (.getfield 22, 3) := by decide +kernel
theorem dX5_doLine_76 : decode cX5_doLine 76 = .ok (.iload 6, 2) := by decide +kernel
theorem dX5_doLine_78 : decode cX5_doLine 78 = .ok (.iload 4, 2) := by decide +kernel
theorem dX5_doLine_80 : decode cX5_doLine 80 = .ok (.iastore, 1) := by decide +kernel
theorem dX5_doLine_81 : decode cX5_doLine 81 = .ok (.iload_n 2, 1) := by decide +kernel
theorem dX5_doLine_82 : decode cX5_doLine 82 = .ok (.iconst 1, 1) := by decide +kernel
theorem dX5_doLine_83 : decode cX5_doLine 83 = .ok (.iadd, 1) := by decide +kernel
theorem dX5_doLine_84 : decode cX5_doLine 84 = .ok (.ireturn, 1) := by decide +kernel
theorem dX5_doLine_85 : decode cX5_doLine 85 = .ok (.iload_n 3, 1) := by decide +kernel
theorem dX5_doLine_86 : decode cX5_doLine 86 = .ok (.iconst 4, 1) := by decide +kernel
theorem dX5_doLine_87 : decode cX5_doLine 87 = .ok (.invokestatic 127, 3) := by decide +kernel
theorem dX5_doLine_90 : decode cX5_doLine 90 = .ok (.ifCond .eq 20, 3) := by decide +kernel
theorem dX5_doLine_93 : decode cX5_doLine 93 = .ok (.aload_n 0, 1) := by decide +kernel
theorem dX5_doLine_94 : decode cX5_doLine 94 = .ok (.getfield 22, 3) := by decide +kernel
theorem dX5_doLine_97 : decode cX5_doLine 97 = .ok (.iload 4, 2) := by decide +kernel
theorem dX5_doLine_99 : decode cX5_doLine 99 = .ok (.aload_n 0, 1) := by decide +kernel
theorem dX5_doLine_100 : decode cX5_doLine 100 = .ok (.getfield 22, 3) := by decide +kernel
theorem dX5_doLine_103 : decode cX5_doLine 103 = .ok (.iload 6, 2) := by decide +kernel
theorem dX5_doLine_105 : decode cX5_doLine 105 = .ok (.iaload, 1) := by decide +kernel
theorem dX5_doLine_106 : decode cX5_doLine 106 = .ok (.iastore, 1) := by decide +kernel
theorem dX5_doLine_107 : decode cX5_doLine 107 = .ok (.goto 17, 3) := by decide +kernel
theorem dX5_doLine_110 : decode cX5_doLine 110 = .ok (.aload_n 0, 1) := by decide +kernel
theorem dX5_doLine_111 : decode cX5_doLine 111 = .ok (.getfield 22, 3) := by decide +kernel
theorem dX5_doLine_114 : decode cX5_doLine 114 = .ok (.iload 6, 2) := by decide +kernel
theorem dX5_doLine_116 : decode cX5_doLine 116 = .ok (.aload_n 0, 1) := by decide +kernel
theorem dX5_doLine_117 : decode cX5_doLine 117 = .ok (.getfield 22, 3) := by decide +kernel
theorem dX5_doLine_120 : decode cX5_doLine 120 = .ok (.iload 4, 2) := by decide +kernel
theorem dX5_doLine_122 : decode cX5_doLine 122 = .ok (.iaload, 1) := by decide +kernel
theorem dX5_doLine_123 : decode cX5_doLine 123 = .ok (.iastore, 1) := by decide +kernel
theorem dX5_doLine_124 : decode cX5_doLine 124 = .ok (.iload_n 2, 1) := by decide +kernel
theorem dX5_doLine_125 : decode cX5_doLine 125 = .ok (.iconst 1, 1) := by decide +kernel
theorem dX5_doLine_126 : decode cX5_doLine 126 = .ok (.iadd, 1) := by decide +kernel
theorem dX5_doLine_127 : decode cX5_doLine 127 = .ok (.ireturn, 1) := by decide +kernel
theorem dX5_doLine_128 : decode cX5_doLine 128 = .ok (.aload_n 0, 1) := by decide +kernel
theorem dX5_doLine_129 : decode cX5_doLine 129 = .ok (.getfield 22, 3) := by decide +kernel
theorem dX5_doLine_132 : decode cX5_doLine 132 = .ok (.iload 6, 2) := by decide +kernel
theorem dX5_doLine_134 : decode cX5_doLine 134 = .ok (.aload_n 0, 1) := by decide +kernel
theorem dX5_doLine_135 : decode cX5_doLine 135 = .ok (.getfield 22, 3) := by decide +kernel
theorem dX5_doLine_138 : decode cX5_doLine 138 = .ok (.iload 6, 2) := by decide +kernel
theorem dX5_doLine_140 : decode cX5_doLine 140 = .ok (.iaload, 1) := by decide +kernel
theorem dX5_doLine_141 : decode cX5_doLine 141 = .ok (.aload_n 0, 1) := by decide +kernel
theorem dX5_doLine_142 : decode cX5_doLine 142 = .ok (.getfield 22, 3) := by decide +kernel
theorem dX5_doLine_145 : decode cX5_doLine 145 = .ok (.iload 4, 2) := by decide +kernel
theorem dX5_doLine_147 : decode cX5_doLine 147 = .ok (.iaload, 1) := by decide +kernel
theorem dX5_doLine_148 : decode cX5_doLine 148 = .ok (.iadd, 1) := by decide +kernel
theorem dX5_doLine_149 : decode cX5_doLine 149 = .ok (.iastore, 1) := by decide +kernel
theorem dX5_doLine_150 : decode cX5_doLine 150 = .ok (.iload_n 2, 1) := by decide +kernel
theorem dX5_doLine_151 : decode cX5_doLine 151 = .ok (.iconst 1, 1) := by decide +kernel
theorem dX5_doLine_152 : decode cX5_doLine 152 = .ok (.iadd, 1) := by decide +kernel
theorem dX5_doLine_153 : decode cX5_doLine 153 = .ok (.ireturn, 1) := by decide +kernel
theorem dX5_doLine_154 : decode cX5_doLine 154 = .ok (.aload_n 0, 1) := by decide +kernel
theorem dX5_doLine_155 : decode cX5_doLine 155 = .ok (.getfield 22, 3) := by decide +kernel
theorem dX5_doLine_158 : decode cX5_doLine 158 = .ok (.iload 6, 2) := by decide +kernel
theorem dX5_doLine_160 : decode cX5_doLine 160 = .ok (.iload_n 3, 1) := by decide +kernel
theorem dX5_doLine_161 : decode cX5_doLine 161 = .ok (.bipush 16, 2) := by decide +kernel
theorem dX5_doLine_163 : decode cX5_doLine 163 = .ok (.invokestatic 127, 3) := by decide +kernel
theorem dX5_doLine_166 : decode cX5_doLine 166 = .ok (.ifCond .eq 21, 3) := by decide +kernel
theorem dX5_doLine_169 : decode cX5_doLine 169 = .ok (.aload_n 0, 1) := by decide +kernel
theorem dX5_doLine_170 : decode cX5_doLine 170 = .ok (.getfield 22, 3) := by decide +kernel
theorem dX5_doLine_173 : decode cX5_doLine 173 = .ok (.iload 4, 2) := by decide +kernel
theorem dX5_doLine_175 : decode cX5_doLine 175 = .ok (.iaload, 1) := by decide +kernel
theorem dX5_doLine_176 : decode cX5_doLine 176 = .ok (.aload_n 0, 1) := by decide +kernel
theorem dX5_doLine_177 : decode cX5_doLine 177 = .ok (.getfield 22, 3) := by decide +kernel
theorem dX5_doLine_180 : decode cX5_doLine 180 = .ok (.iload 6, 2) := by decide +kernel
theorem dX5_doLine_182 : decode cX5_doLine 182 = .ok (.iaload, 1) := by decide +kernel
theorem dX5_doLine_183 : decode cX5_doLine 183 = .ok (.isub, 1) := by decide +kernel
theorem dX5_doLine_184 : decode cX5_doLine 184 = .ok (.goto 18, 3) := by decide +kernel
theorem dX5_doLine_187 : decode cX5_doLine 187 = .ok (.aload_n 0, 1) := by decide +kernel
theorem dX5_doLine_188 : decode cX5_doLine 188 = .ok (.getfield 22, 3) := by decide +kernel
theorem dX5_doLine_191 : decode cX5_doLine 191 = .ok (.iload 6, 2) := by decide +kernel
theorem dX5_doLine_193 : decode cX5_doLine 193 = .ok (.iaload, 1) := by decide +kernel
theorem dX5_doLine_194 : decode cX5_doLine 194 = .ok (.aload_n 0, 1) := by decide +kernel
theorem dX5_doLine_195 : decode cX5_doLine 195 = .ok (.getfield 22, 3) := by decide +kernel
theorem dX5_doLine_198 : decode cX5_doLine 198 = .ok (.iload 4, 2) := by decide +kernel
theorem dX5_doLine_200 : decode cX5_doLine 200 = .ok (.iaload, 1) := by decide +kernel
theorem dX5_doLine_201 : decode cX5_doLine 201 = .ok (.isub, 1) := by decide +kernel
theorem dX5_doLine_202 : decode cX5_doLine 202 = .ok (.iastore, 1) := by decide +kernel
theorem dX5_doLine_203 : decode cX5_doLine 203 = .ok (.iload_n 2, 1) := by decide +kernel
theorem dX5_doLine_204 : decode cX5_doLine 204 = .ok (.iconst 1, 1) := by decide +kernel
theorem dX5_doLine_205 : decode cX5_doLine 205 = .ok (.iadd, 1) := by decide +kernel
theorem dX5_doLine_206 : decode cX5_doLine 206 = .ok (.ireturn, 1) := by decide +kernel
theorem dX5_doLine_207 : decode cX5_doLine 207 = .ok (.aload_n 0, 1) := by decide +kernel
theorem dX5_doLine_208 : decode cX5_doLine 208 = .ok (.getfield 31, 3) := by decide +kernel
theorem dX5_doLine_211 : decode cX5_doLine 211 = .ok (.iload_n 2, 1) := by decide +kernel
theorem dX5_doLine_212 : decode cX5_doLine 212 = .ok (.aload_n 0, 1) := by decide +kernel
theorem dX5_doLine_213 : decode cX5_doLine 213 = .ok (.getfield 22, 3) := by decide +kernel
theorem dX5_doLine_216 : decode cX5_doLine 216 = .ok (.iload 6, 2) := by decide +kernel
theorem dX5_doLine_218 : decode cX5_doLine 218 = .ok (.iaload, 1) := by decide +kernel
theorem dX5_doLine_219 : decode cX5_doLine 219 = .ok (.i2l, 1) := by decide +kernel
theorem dX5_doLine_220 : decode cX5_doLine 220 = .ok (.lastore, 1) := by decide +kernel
theorem dX5_doLine_221 : decode cX5_doLine 221 = .ok (.aload_n 0, 1) := by decide +kernel
theorem dX5_doLine_222 : decode cX5_doLine 222 = .ok (.getfield 31, 3) := by decide +kernel
theorem dX5_doLine_225 : decode cX5_doLine 225 = .ok (.iload_n 2, 1) := by decide +kernel
theorem dX5_doLine_226 : decode cX5_doLine 226 = .ok (.dup2, 1) := by decide +kernel
theorem dX5_doLine_227 : decode cX5_doLine 227 = .ok (.laload, 1) := by decide +kernel
theorem dX5_doLine_228 : decode cX5_doLine 228 = .ok (.aload_n 0, 1) := by decide +kernel
theorem dX5_doLine_229 : decode cX5_doLine 229 = .ok (.getfield 31, 3) := by decide +kernel
theorem dX5_doLine_232 : decode cX5_doLine 232 = .ok (.iload_n 2, 1) := by decide +kernel
theorem dX5_doLine_233 : decode cX5_doLine 233 = .ok (.laload, 1) := by decide +kernel
theorem dX5_doLine_234 : decode cX5_doLine 234 = .ok (.lconst 0, 1) := by decide +kernel
theorem dX5_doLine_235 : decode cX5_doLine 235 = .ok (.lcmp, 1) := by decide +kernel
theorem dX5_doLine_236 : decode cX5_doLine 236 = .ok (.ifCond .le 15, 3) := by decide +kernel
theorem dX5_doLine_239 : decode cX5_doLine 239 = .ok (.iload_n 3, 1) := by decide +kernel
theorem dX5_doLine_240 : decode cX5_doLine 240 = .ok (.iconst 2, 1) := by decide +kernel
theorem dX5_doLine_241 : decode cX5_doLine 241 = .ok (.invokestatic 127, 3) := by decide +kernel
theorem dX5_doLine_244 : decode cX5_doLine 244 = .ok (.ifCond .eq 7, 3) := by decide +kernel
theorem dX5_doLine_247 : decode cX5_doLine 247 = .ok (.lconst 1, 1) := by decide +kernel
theorem dX5_doLine_248 : decode cX5_doLine 248 = .ok (.goto 4, 3) := by decide +kernel
theorem dX5_doLine_251 : decode cX5_doLine 251 = .ok (.lconst 0, 1) := by decide +kernel
theorem dX5_doLine_252 : decode cX5_doLine 252 = .ok (.ladd, 1) := by decide +kernel
theorem dX5_doLine_253 : decode cX5_doLine 253 = .ok (.lastore, 1) := by decide +kernel
theorem dX5_doLine_254 : decode cX5_doLine 254 = .ok (.aload_n 0, 1) := by decide +kernel
theorem dX5_doLine_255 : decode cX5_doLine 255 = .ok (.getfield 31, 3) := by decide +kernel
theorem dX5_doLine_258 : decode cX5_doLine 258 = .ok (.iload_n 2, 1) := by decide +kernel
theorem dX5_doLine_259 : decode cX5_doLine 259 = .ok (.laload, 1) := by decide +kernel
theorem dX5_doLine_260 : decode cX5_doLine 260 = .ok (.lconst 0, 1) := by decide +kernel
theorem dX5_doLine_261 : decode cX5_doLine 261 = .ok (.lcmp, 1) := by decide +kernel
theorem dX5_doLine_262 : decode cX5_doLine 262 = .ok (.ifCond .le 9, 3) := by decide +kernel
theorem dX5_doLine_265 : decode cX5_doLine 265 = .ok (.iload_n 2, 1) := by decide +kernel
theorem dX5_doLine_266 : decode cX5_doLine 266 = .ok (.iconst 1, 1) := by decide +kernel
theorem dX5_doLine_267 : decode cX5_doLine 267 = .ok (.iadd, 1) := by decide +kernel
theorem dX5_doLine_268 : decode cX5_doLine 268 = .ok (.goto 11, 3) := by decide +kernel
theorem dX5_doLine_271 : decode cX5_doLine 271 = .ok (.aload_n 0, 1) := by decide +kernel
theorem dX5_doLine_272 : decode cX5_doLine 272 = .ok (.iload_n 1, 1) := by decide +kernel
theorem dX5_doLine_273 : decode cX5_doLine 273 = .ok (.iload_n 2, 1) := by decide +kernel
theorem dX5_doLine_274 : decode cX5_doLine 274 = .ok (.invokevirtual 131, 3) := by decide +kernel
theorem dX5_doLine_277 : decode cX5_doLine 277 = .ok (.iconst 1, 1) := by decide +kernel
theorem dX5_doLine_278 : decode cX5_doLine 278 = .ok (.iadd, 1) := by decide +kernel
theorem dX5_doLine_279 : decode cX5_doLine 279 = .ok (.ireturn, 1) := by decide +kernel
theorem dX5_doLine_280 : decode cX5_doLine 280 = .ok (.aload_n 0, 1) := by decide +kernel
theorem dX5_doLine_281 : decode cX5_doLine 281 = .ok (.getfield 22, 3) := by decide +kernel
theorem dX5_doLine_284 : decode cX5_doLine 284 = .ok (.iload 6, 2) := by decide +kernel
theorem dX5_doLine_286 : decode cX5_doLine 286 = .ok (.iaload, 1) := by decide +kernel
theorem dX5_doLine_287 : decode cX5_doLine 287 = .ok (.aload_n 0, 1) := by decide +kernel
theorem dX5_doLine_288 : decode cX5_doLine 288 = .ok (.getfield 22, 3) := by decide +kernel
theorem dX5_doLine_291 : decode cX5_doLine 291 = .ok (.iload 4, 2) := by decide +kernel
theorem dX5_doLine_293 : decode cX5_doLine 293 = .ok (.iaload, 1) := by decide +kernel
theorem dX5_doLine_294 : decode cX5_doLine 294 = .ok (.if_icmp .lt 29, 3) := by decide +kernel
theorem dX5_doLine_297 : decode cX5_doLine 297 = .ok (.iload_n 3, 1) := by decide +kernel
theorem dX5_doLine_298 : decode cX5_doLine 298 = .ok (.bipush 8, 2) := by decide +kernel
theorem dX5_doLine_300 : decode cX5_doLine 300 = .ok (.invokestatic 127, 3) := by decide +kernel
theorem dX5_doLine_303 : decode cX5_doLine 303 = .ok (.ifCond .eq 24, 3) := by decide +kernel
theorem dX5_doLine_306 : decode cX5_doLine 306 = .ok (.aload_n 0, 1) := by decide +kernel
theorem dX5_doLine_307 : decode cX5_doLine 307 = .ok (.getfield 22, 3) := by decide +kernel
theorem dX5_doLine_310 : decode cX5_doLine 310 = .ok (.iload 6, 2) := by decide +kernel
theorem dX5_doLine_312 : decode cX5_doLine 312 = .ok (.iaload, 1) := by decide +kernel
theorem dX5_doLine_313 : decode cX5_doLine 313 = .ok (.aload_n 0, 1) := by decide +kernel
theorem dX5_doLine_314 : decode cX5_doLine 314 = .ok (.getfield 22, 3) := by decide +kernel
theorem dX5_doLine_317 : decode cX5_doLine 317 = .ok (.iload 4, 2) := by decide +kernel
theorem dX5_doLine_319 : decode cX5_doLine 319 = .ok (.iaload, 1) := by decide +kernel
theorem dX5_doLine_320 : decode cX5_doLine 320 = .ok (.if_icmp .ne 7, 3) := by decide +kernel
theorem dX5_doLine_323 : decode cX5_doLine 323 = .ok (.iconst 1, 1) := by decide +kernel
theorem dX5_doLine_324 : decode cX5_doLine 324 = .ok (.goto 4, 3) := by decide +kernel
theorem dX5_doLine_327 : decode cX5_doLine 327 = .ok (.iconst 0, 1) := by decide +kernel
theorem dX5_doLine_328 : decode cX5_doLine 328 = .ok (.istore 7, 2) := by decide +kernel
theorem dX5_doLine_330 : decode cX5_doLine 330 = .ok (.iload 7, 2) := by decide +kernel
theorem dX5_doLine_332 : decode cX5_doLine 332 = .ok (.ifCond .eq 9, 3) := by decide +kernel
theorem dX5_doLine_335 : decode cX5_doLine 335 = .ok (.iload_n 2, 1) := by decide +kernel
theorem dX5_doLine_336 : decode cX5_doLine 336 = .ok (.iconst 1, 1) := by decide +kernel
theorem dX5_doLine_337 : decode cX5_doLine 337 = .ok (.iadd, 1) := by decide +kernel
theorem dX5_doLine_338 : decode cX5_doLine 338 = .ok (.goto 11, 3) := by decide +kernel
theorem dX5_doLine_341 : decode cX5_doLine 341 = .ok (.aload_n 0, 1) := by decide +kernel
theorem dX5_doLine_342 : decode cX5_doLine 342 = .ok (.iload_n 1, 1) := by decide +kernel
theorem dX5_doLine_343 : decode cX5_doLine 343 = .ok (.iload_n 2, 1) := by decide +kernel
theorem dX5_doLine_344 : decode cX5_doLine 344 = .ok (.invokevirtual 131, 3) := by decide +kernel
theorem dX5_doLine_347 : decode cX5_doLine 347 = .ok (.iconst 1, 1) := by decide +kernel
theorem dX5_doLine_348 : decode cX5_doLine 348 = .ok (.iadd, 1) := by decide +kernel
theorem dX5_doLine_349 : decode cX5_doLine 349 = .ok (.ireturn, 1) := by decide +kernel
theorem dX5_doLine_350 : decode cX5_doLine 350 = .ok (.aload_n 0, 1) := by decide +kernel
theorem dX5_doLine_351 : decode cX5_doLine 351 = .ok (.iload_n 1, 1) := by decide +kernel
theorem dX5_doLine_352 : decode cX5_doLine 352 = .ok (.iload_n 2, 1) := by decide +kernel
theorem dX5_doLine_353 : decode cX5_doLine 353 = .ok (.invokevirtual 134, 3) := by decide +kernel
theorem dX5_doLine_356 : decode cX5_doLine 356 = .ok (.ireturn, 1) := by decide +kernel
theorem dX5_doLine_357 : decode cX5_doLine 357 = .ok (.aload_n 0, 1) := by decide +kernel
theorem dX5_doLine_358 : decode cX5_doLine 358 = .ok (.iload 5, 2) := by decide +kernel
theorem dX5_doLine_360 : decode cX5_doLine 360 = .ok (.iload 6, 2) := by decide +kernel
theorem dX5_doLine_362 : decode cX5_doLine 362 = .ok (.iload 4, 2) := by decide +kernel
theorem dX5_doLine_364 : decode cX5_doLine 364 = .ok (.iload_n 3, 1) := by decide +kernel
theorem dX5_doLine_365 : decode cX5_doLine 365 = .ok (.invokevirtual 137, 3) := by decide +kernel
theorem dX5_doLine_368 : decode cX5_doLine 368 = .ok (.iload_n 2, 1) := by decide +kernel
theorem dX5_doLine_369 : decode cX5_doLine 369 = .ok (.iconst 1, 1) := by decide +kernel
theorem dX5_doLine_370 : decode cX5_doLine 370 = .ok (.iadd, 1) := by decide +kernel
theorem dX5_doLine_371 : decode cX5_doLine 371 = .ok (.ireturn, 1) := by decide +kernel
theorem dX5_ended_0 : decode cX5_ended 0 = .ok (.aload_n 0, 1) := by decide +kernel
theorem dX5_ended_1 : decode cX5_ended 1 = .ok (.iload_n 1, 1) := by decide +kernel
theorem dX5_ended_2 : decode cX5_ended 2 = .ok (.iload_n 2, 1) := by decide +kernel
theorem dX5_ended_3 : decode cX5_ended 3 = .ok (.invokevirtual 141, 3) := by decide +kernel
theorem dX5_ended_6 : decode cX5_ended 6 = .ok (.istore_n 3, 1) := by decide +kernel
theorem dX5_ended_7 : decode cX5_ended 7 = .ok (.aload_n 0, 1) := by decide +kernel
theorem dX5_ended_8 : decode cX5_ended 8 = .ok (.getfield 9, 3) := by decide +kernel
theorem dX5_ended_11 : decode cX5_ended 11 = .ok (.bipush 20, 2) := by decide +kernel
theorem dX5_ended_13 : decode cX5_ended 13 = .ok (.iload_n 1, 1) := by decide +kernel
theorem dX5_ended_14 : decode cX5_ended 14 = .ok (.imul, 1) := by decide +kernel
theorem dX5_ended_15 : decode cX5_ended 15 = .ok (.iload_n 3, 1) := by decide +kernel
theorem dX5_ended_16 : decode cX5_ended 16 = .ok (.iadd, 1) := by decide +kernel
theorem dX5_ended_17 : decode cX5_ended 17 = .ok (.iaload, 1) := by decide +kernel
theorem dX5_ended_18 : decode cX5_ended 18 = .ok (.iconst 5, 1) := by decide +kernel
theorem dX5_ended_19 : decode cX5_ended 19 = .ok (.if_icmp .ne 7, 3) := by decide +kernel
theorem dX5_ended_22 : decode cX5_ended 22 = .ok (.iload_n 2, 1) := by decide +kernel
theorem dX5_ended_23 : decode cX5_ended 23 = .ok (.iconst 1, 1) := by decide +kernel
theorem dX5_ended_24 : decode cX5_ended 24 = .ok (.iadd, 1) := by decide +kernel
theorem dX5_ended_25 : decode cX5_ended 25 = .ok (.ireturn, 1) := by decide +kernel
theorem dX5_ended_26 : decode cX5_ended 26 = .ok (.aload_n 0, 1) := by decide +kernel
theorem dX5_ended_27 : decode cX5_ended 27 = .ok (.getfield 31, 3) := by decide +kernel
theorem dX5_ended_30 : decode cX5_ended 30 = .ok (.iload_n 3, 1) := by decide +kernel
theorem dX5_ended_31 : decode cX5_ended 31 = .ok (.dup2, 1) := by decide +kernel
theorem dX5_ended_32 : decode cX5_ended 32 = .ok (.laload, 1) := by decide +kernel
theorem dX5_ended_33 : decode cX5_ended 33 = .ok (.lconst 1, 1) := by decide +kernel
theorem dX5_ended_34 : decode cX5_ended 34 = .ok (.lsub, 1) := by decide +kernel
theorem dX5_ended_35 : decode cX5_ended 35 = .ok (.lastore, 1) := by decide +kernel
theorem dX5_ended_36 : decode cX5_ended 36 = .ok (.aload_n 0, 1) := by decide +kernel
theorem dX5_ended_37 : decode cX5_ended 37 = .ok (.getfield 31, 3) := by decide +kernel
theorem dX5_ended_40 : decode cX5_ended 40 = .ok (.iload_n 3, 1) := by decide +kernel
theorem dX5_ended_41 : decode cX5_ended 41 = .ok (.laload, 1) := by decide +kernel
theorem dX5_ended_42 : decode cX5_ended 42 = .ok (.lconst 0, 1) := by decide +kernel
theorem dX5_ended_43 : decode cX5_ended 43 = .ok (.lcmp, 1) := by decide +kernel
theorem dX5_ended_44 : decode cX5_ended 44 = .ok (.ifCond .le 9, 3) := by decide +kernel
theorem dX5_ended_47 : decode cX5_ended 47 = .ok (.iload_n 3, 1) := by decide +kernel
theorem dX5_ended_48 : decode cX5_ended 48 = .ok (.iconst 1, 1) := by decide +kernel
theorem dX5_ended_49 : decode cX5_ended 49 = .ok (.iadd, 1) := by decide +kernel
theorem dX5_ended_50 : decode cX5_ended 50 = .ok (.goto 6, 3) := by decide +kernel
theorem dX5_ended_53 : decode cX5_ended 53 = .ok (.iload_n 2, 1) := by decide +kernel
theorem dX5_ended_54 : decode cX5_ended 54 = .ok (.iconst 1, 1) := by decide +kernel
theorem dX5_ended_55 : decode cX5_ended 55 = .ok (.iadd, 1) := by decide +kernel
theorem dX5_ended_56 : decode cX5_ended 56 = .ok (.ireturn, 1) := by decide +kernel
theorem dX5_rows_0 : decode cX5_rows 0 = .ok (.iload_n 1, 1) := by decide +kernel
theorem dX5_rows_1 : decode cX5_rows 1 = .ok (.bipush 7, 2) := by decide +kernel
theorem dX5_rows_3 : decode cX5_rows 3 = .ok (.if_icmp .ne 38, 3) := by decide +kernel
theorem dX5_rows_6 : decode cX5_rows 6 = .ok (.aload_n 0, 1) := by decide +kernel
theorem dX5_rows_7 : decode cX5_rows 7 = .ok (.getfield 25, 3) := by decide +kernel
theorem dX5_rows_10 : decode cX5_rows 10 = .ok (.iconst 4, 1) := by decide +kernel
theorem dX5_rows_11 : decode cX5_rows 11 = .ok (.aload_n 0, 1) := by decide +kernel
theorem dX5_rows_12 : decode cX5_rows 12 = .ok (.getfield 28, 3) := by decide +kernel
theorem dX5_rows_15 : decode cX5_rows 15 = .ok (.iload_n 2, 1) := by decide +kernel
theorem dX5_rows_16 : decode cX5_rows 16 = .ok (.iconst 4, 1) := by decide +kernel
theorem dX5_rows_17 : decode cX5_rows 17 = .ok (.idiv, 1) := by decide +kernel
theorem dX5_rows_18 : decode cX5_rows 18 = .ok (.iaload, 1) := by decide +kernel
theorem dX5_rows_19 : decode cX5_rows 19 = .ok (.imul, 1) := by decide +kernel
theorem dX5_rows_20 : decode cX5_rows 20 = .ok (.aload_n 0, 1) := by decide +kernel
theorem dX5_rows_21 : decode cX5_rows 21 = .ok (.getfield 22, 3) := by decide +kernel
theorem dX5_rows_24 : decode cX5_rows 24 = .ok (.iload_n 2, 1) := by decide +kernel
theorem dX5_rows_25 : decode cX5_rows 25 = .ok (.iconst 4, 1) := by decide +kernel
theorem dX5_rows_26 : decode cX5_rows 26 = .ok (.irem, 1) := by decide +kernel
theorem dX5_rows_27 : decode cX5_rows 27 = .ok (.iaload, 1) := by decide +kernel
theorem dX5_rows_28 : decode cX5_rows 28 = .ok (.iconst 3, 1) := by decide +kernel
theorem dX5_rows_29 : decode cX5_rows 29 = .ok (.iand, 1) := by decide +kernel
theorem dX5_rows_30 : decode cX5_rows 30 = .ok (.iadd, 1) := by decide +kernel
theorem dX5_rows_31 : decode cX5_rows 31 = .ok (.aload_n 0, 1) := by decide +kernel
theorem dX5_rows_32 : decode cX5_rows 32 = .ok (.getfield 22, 3) := by decide +kernel
theorem dX5_rows_35 : decode cX5_rows 35 = .ok (.iload_n 3, 1) := by decide +kernel
theorem dX5_rows_36 : decode cX5_rows 36 = .ok (.iaload, 1) := by decide +kernel
theorem dX5_rows_37 : decode cX5_rows 37 = .ok (.iastore, 1) := by decide +kernel
theorem dX5_rows_38 : decode cX5_rows 38 = .ok (.goto 173, 3) := by decide +kernel
theorem dX5_rows_41 : decode cX5_rows 41 = .ok (.iload_n 1, 1) := by decide +kernel
theorem dX5_rows_42 : decode cX5_rows 42 = .ok (.bipush 8, 2) := by decide +kernel
theorem dX5_rows_44 : decode cX5_rows 44 = .ok (.if_icmp .ne 58, 3) := by decide +kernel
theorem dX5_rows_47 : decode cX5_rows 47 = .ok (.aload_n 0, 1) := by decide +kernel
theorem dX5_rows_48 : decode cX5_rows 48 = .ok (.getfield 22, 3) := by decide +kernel
theorem dX5_rows_51 : decode cX5_rows 51 = .ok (.iload_n 3, 1) := by decide +kernel
theorem dX5_rows_52 : decode cX5_rows 52 = .ok (.iconst 4, 1) := by decide +kernel
theorem dX5_rows_53 : decode cX5_rows 53 = .ok (.irem, 1) := by decide +kernel
theorem dX5_rows_54 : decode cX5_rows 54 = .ok (.iaload, 1) := by decide +kernel
theorem dX5_rows_55 : decode cX5_rows 55 = .ok (.iload 4, 2) := by decide +kernel
theorem dX5_rows_57 : decode cX5_rows 57 = .ok (.bipush 32, 2) := by decide +kernel
theorem dX5_rows_59 : decode cX5_rows 59 = .ok (.invokestatic 127, 3) := by decide +kernel
theorem dX5_rows_62 : decode cX5_rows 62 = .ok (.ifCond .eq 7, 3) := by decide +kernel
theorem dX5_rows_65 : decode cX5_rows 65 = .ok (.iconst 1, 1) := by decide +kernel
theorem dX5_rows_66 : decode cX5_rows 66 = .ok (.goto 4, 3) := by decide +kernel
theorem dX5_rows_69 : decode cX5_rows 69 = .ok (.iconst 0, 1) := by decide +kernel
theorem dX5_rows_70 : decode cX5_rows 70 = .ok (.iadd, 1) := by decide +kernel
theorem dX5_rows_71 : decode cX5_rows 71 = .ok (.iconst 3, 1) := by decide +kernel
theorem dX5_rows_72 : decode cX5_rows 72 = .ok (.iand, 1) := by decide +kernel
theorem dX5_rows_73 : decode cX5_rows 73 = .ok (.istore 5, 2) := by decide +kernel
theorem dX5_rows_75 : decode cX5_rows 75 = .ok (.aload_n 0, 1) := by decide +kernel
theorem dX5_rows_76 : decode cX5_rows 76 = .ok (.getfield 22, 3) := by decide +kernel
theorem dX5_rows_79 : decode cX5_rows 79 = .ok (.iload_n 2, 1) := by decide +kernel
theorem dX5_rows_80 : decode cX5_rows 80 = .ok (.aload_n 0, 1) := by decide +kernel
theorem dX5_rows_81 : decode cX5_rows 81 = .ok (.getfield 25, 3) := by decide +kernel
theorem dX5_rows_84 : decode cX5_rows 84 = .ok (.iconst 4, 1) := by decide +kernel
theorem dX5_rows_85 : decode cX5_rows 85 = .ok (.aload_n 0, 1) := by decide +kernel
theorem dX5_rows_86 : decode cX5_rows 86 = .ok (.getfield 28, 3) := by decide +kernel
theorem dX5_rows_89 : decode cX5_rows 89 = .ok (.iload_n 3, 1) := by decide +kernel
theorem dX5_rows_90 : decode cX5_rows 90 = .ok (.iconst 4, 1) := by decide +kernel
theorem dX5_rows_91 : decode cX5_rows 91 = .ok (.idiv, 1) := by decide +kernel
theorem dX5_rows_92 : decode cX5_rows 92 = .ok (.iaload, 1) := by decide +kernel
theorem dX5_rows_93 : decode cX5_rows 93 = .ok (.imul, 1) := by decide +kernel
theorem dX5_rows_94 : decode cX5_rows 94 = .ok (.iload 5, 2) := by decide +kernel
theorem dX5_rows_96 : decode cX5_rows 96 = .ok (.iadd, 1) := by decide +kernel
theorem dX5_rows_97 : decode cX5_rows 97 = .ok (.iaload, 1) := by decide +kernel
theorem dX5_rows_98 : decode cX5_rows 98 = .ok (.iastore, 1) := by decide +kernel
theorem dX5_rows_99 : decode cX5_rows 99 = .ok (.goto 112, 3) := by decide +kernel
theorem dX5_rows_102 : decode cX5_rows 102 = .ok (.iload 4, 2) := by decide +kernel
theorem dX5_rows_104 : decode cX5_rows 104 = .ok (.iconst 1, 1) := by decide +kernel
theorem dX5_rows_105 : decode cX5_rows 105 = .ok (.invokestatic 127, 3) := by decide +kernel
theorem dX5_rows_108 : decode cX5_rows 108 = .ok (.ifCond .eq 91, 3) := by decide +kernel
theorem dX5_rows_111 : decode cX5_rows 111 = .ok (.aload_n 0, 1) := by decide +kernel
theorem dX5_rows_112 : decode cX5_rows 112 = .ok (.getfield 28, 3) := by decide +kernel
theorem dX5_rows_115 : decode cX5_rows 115 = .ok (.iload_n 3, 1) := by decide +kernel
theorem dX5_rows_116 : decode cX5_rows 116 = .ok (.iaload, 1) := by decide +kernel
theorem dX5_rows_117 : decode cX5_rows 117 = .ok (.istore 5, 2) := by decide +kernel
theorem dX5_rows_119 : decode cX5_rows 119 = .ok (.aload_n 0, 1) := by decide +kernel
theorem dX5_rows_120 : decode cX5_rows 120 = .ok (.getfield 28, 3) := by decide +kernel
theorem dX5_rows_123 : decode cX5_rows 123 = .ok (.iconst 0, 1) := by decide +kernel
theorem dX5_rows_124 : decode cX5_rows 124 = .ok (.iaload, 1) := by decide +kernel
theorem dX5_rows_125 : decode cX5_rows 125 = .ok (.aload_n 0, 1) := by decide +kernel
theorem dX5_rows_126 : decode cX5_rows 126 = .ok (.getfield 28, 3) := by decide +kernel
theorem dX5_rows_129 : decode cX5_rows 129 = .ok (.iconst 1, 1) := by decide +kernel
theorem dX5_rows_130 : decode cX5_rows 130 = .ok (.iaload, 1) := by decide +kernel
theorem dX5_rows_131 : decode cX5_rows 131 = .ok (.if_icmp .ne 10, 3) := by decide +kernel
theorem dX5_rows_134 : decode cX5_rows 134 = .ok (.iconst 1, 1) := by decide +kernel
theorem dX5_rows_135 : decode cX5_rows 135 = .ok (.iload 5, 2) := by decide +kernel
theorem dX5_rows_137 : decode cX5_rows 137 = .ok (.isub, 1) := by decide +kernel
theorem dX5_rows_138 : decode cX5_rows 138 = .ok (.goto 9, 3) := by decide +kernel
theorem dX5_rows_141 : decode cX5_rows 141 = .ok (.aload_n 0, 1) := by decide +kernel
theorem dX5_rows_142 : decode cX5_rows 142 = .ok (.getfield 28, 3) := by decide +kernel
theorem dX5_rows_145 : decode cX5_rows 145 = .ok (.iload_n 2, 1) := by decide +kernel
theorem dX5_rows_146 : decode cX5_rows 146 = .ok (.iaload, 1) := by decide +kernel
theorem dX5_rows_147 : decode cX5_rows 147 = .ok (.istore 6, 2) := by decide +kernel
theorem dX5_rows_149 : decode cX5_rows 149 = .ok (.iconst 0, 1) := by decide +kernel
theorem dX5_rows_150 : decode cX5_rows 150 = .ok (.istore 7, 2) := by decide +kernel
theorem dX5_rows_152 : decode cX5_rows 152 = .ok (.iload 7, 2) := by decide +kernel
theorem dX5_rows_154 : decode cX5_rows 154 = .ok (.iconst 4, 1) := by decide +kernel
theorem dX5_rows_155 : decode cX5_rows 155 = .ok (.if_icmp .ge 33, 3) := by decide +kernel
theorem dX5_rows_158 : decode cX5_rows 158 = .ok (.aload_n 0, 1) := by decide +kernel
theorem dX5_rows_159 : decode cX5_rows 159 = .ok (.getfield 25, 3) := by decide +kernel
theorem dX5_rows_162 : decode cX5_rows 162 = .ok (.iconst 4, 1) := by decide +kernel
theorem dX5_rows_163 : decode cX5_rows 163 = .ok (.iload 6, 2) := by decide +kernel
theorem dX5_rows_165 : decode cX5_rows 165 = .ok (.imul, 1) := by decide +kernel
theorem dX5_rows_166 : decode cX5_rows 166 = .ok (.iload 7, 2) := by decide +kernel
theorem dX5_rows_168 : decode cX5_rows 168 = .ok (.iadd, 1) := by decide +kernel
theorem dX5_rows_169 : decode cX5_rows 169 = .ok (.aload_n 0, 1) := by decide +kernel
theorem dX5_rows_170 : decode cX5_rows 170 = .ok (.getfield 25, 3) := by decide +kernel
theorem dX5_rows_173 : decode cX5_rows 173 = .ok (.iconst 4, 1) := by decide +kernel
theorem dX5_rows_174 : decode cX5_rows 174 = .ok (.iload 5, 2) := by decide +kernel
theorem dX5_rows_176 : decode cX5_rows 176 = .ok (.imul, 1) := by decide +kernel
theorem dX5_rows_177 : decode cX5_rows 177 = .ok (.iload 7, 2) := by decide +kernel
theorem dX5_rows_179 : decode cX5_rows 179 = .ok (.iadd, 1) := by decide +kernel
theorem dX5_rows_180 : decode cX5_rows 180 = .ok (.iaload, 1) := by decide +kernel
theorem dX5_rows_181 : decode cX5_rows 181 = .ok (.iastore, 1) := by decide +kernel
theorem dX5_rows_182 : decode cX5_rows 182 = .ok (.iinc 7 1, 3) := by decide +kernel
theorem dX5_rows_185 : decode cX5_rows 185 = .ok (.goto (-33), 3) := by decide +kernel
theorem dX5_rows_188 : decode cX5_rows 188 = .ok (.aload_n 0, 1) := by decide +kernel
theorem dX5_rows_189 : decode cX5_rows 189 = .ok (.getfield 28, 3) := by decide +kernel
theorem dX5_rows_192 : decode cX5_rows 192 = .ok (.iload_n 2, 1) := by decide +kernel
theorem dX5_rows_193 : decode cX5_rows 193 = .ok (.iload 6, 2) := by decide +kernel
theorem dX5_rows_195 : decode cX5_rows 195 = .ok (.iastore, 1) := by decide +kernel
theorem dX5_rows_196 : decode cX5_rows 196 = .ok (.goto 15, 3) := by decide +kernel
theorem dX5_rows_199 : decode cX5_rows 199 = .ok (.aload_n 0, 1) := by decide +kernel
theorem dX5_rows_200 : decode cX5_rows 200 = .ok (.getfield 28, 3) := by decide +kernel
theorem dX5_rows_203 : decode cX5_rows 203 = .ok (.iload_n 2, 1) := by decide +kernel
theorem dX5_rows_204 : decode cX5_rows 204 = .ok (.aload_n 0, 1) := by decide +kernel
theorem dX5_rows_205 : decode cX5_rows 205 = .ok (.getfield 28, 3) := by decide +kernel
theorem dX5_rows_208 : decode cX5_rows 208 = .ok (.iload_n 3, 1) := by decide +kernel
theorem dX5_rows_209 : decode cX5_rows 209 = .ok (.iaload, 1) := by decide +kernel
theorem dX5_rows_210 : decode cX5_rows 210 = .ok (.iastore, 1) := by decide +kernel
theorem dX5_rows_211 : decode cX5_rows 211 = .ok (.return_, 1) := by decide +kernel
theorem dX5_end_0 : decode cX5_end 0 = .ok (.iload_n 1, 1) := by decide +kernel
theorem dX5_end_1 : decode cX5_end 1 = .ok (.iconst 4, 1) := by decide +kernel
theorem dX5_end_2 : decode cX5_end 2 = .ok (.if_icmp .ge 12, 3) := by decide +kernel
theorem dX5_end_5 : decode cX5_end 5 = .ok (.aload_n 0, 1) := by decide +kernel
theorem dX5_end_6 : decode cX5_end 6 = .ok (.getfield 22, 3) := by decide +kernel
theorem dX5_end_9 : decode cX5_end 9 = .ok (.iload_n 1, 1) := by decide +kernel
theorem dX5_end_10 : decode cX5_end 10 = .ok (.iaload, 1) := by decide +kernel
theorem dX5_end_11 : decode cX5_end 11 = .ok (.goto 74, 3) := by decide +kernel
theorem dX5_end_14 : decode cX5_end 14 = .ok (.iload_n 1, 1) := by decide +kernel
theorem dX5_end_15 : decode cX5_end 15 = .ok (.bipush 12, 2) := by decide +kernel
theorem dX5_end_17 : decode cX5_end 17 = .ok (.if_icmp .ge 27, 3) := by decide +kernel
theorem dX5_end_20 : decode cX5_end 20 = .ok (.aload_n 0, 1) := by decide +kernel
theorem dX5_end_21 : decode cX5_end 21 = .ok (.getfield 25, 3) := by decide +kernel
theorem dX5_end_24 : decode cX5_end 24 = .ok (.iconst 4, 1) := by decide +kernel
theorem dX5_end_25 : decode cX5_end 25 = .ok (.aload_n 0, 1) := by decide +kernel
theorem dX5_end_26 : decode cX5_end 26 = .ok (.getfield 28, 3) := by decide +kernel
theorem dX5_end_29 : decode cX5_end 29 = .ok (.iload_n 1, 1) := by decide +kernel
theorem dX5_end_30 : decode cX5_end 30 = .ok (.iconst 4, 1) := by decide +kernel
theorem dX5_end_31 : decode cX5_end 31 = .ok (.idiv, 1) := by decide +kernel
theorem dX5_end_32 : decode cX5_end 32 = .ok (.iconst 1, 1) := by decide +kernel
theorem dX5_end_33 : decode cX5_end 33 = .ok (.isub, 1) := by decide +kernel
theorem dX5_end_34 : decode cX5_end 34 = .ok (.iaload, 1) := by decide +kernel
theorem dX5_end_35 : decode cX5_end 35 = .ok (.imul, 1) := by decide +kernel
theorem dX5_end_36 : decode cX5_end 36 = .ok (.iload_n 1, 1) := by decide +kernel
theorem dX5_end_37 : decode cX5_end 37 = .ok (.iconst 4, 1) := by decide +kernel
theorem dX5_end_38 : decode cX5_end 38 = .ok (.irem, 1) := by decide +kernel
theorem dX5_end_39 : decode cX5_end 39 = .ok (.iadd, 1) := by decide +kernel
theorem dX5_end_40 : decode cX5_end 40 = .ok (.iaload, 1) := by decide +kernel
theorem dX5_end_41 : decode cX5_end 41 = .ok (.goto 44, 3) := by decide +kernel
theorem dX5_end_44 : decode cX5_end 44 = .ok (.iload_n 1, 1) := by decide +kernel
theorem dX5_end_45 : decode cX5_end 45 = .ok (.bipush 12, 2) := by decide +kernel
theorem dX5_end_47 : decode cX5_end 47 = .ok (.if_icmp .ne 18, 3) := by decide +kernel
theorem dX5_end_50 : decode cX5_end 50 = .ok (.aload_n 0, 1) := by decide +kernel
theorem dX5_end_51 : decode cX5_end 51 = .ok (.getfield 119, 3) := by decide +kernel
theorem dX5_end_54 : decode cX5_end 54 = .ok (.ifCond .eq 7, 3) := by decide +kernel
theorem dX5_end_57 : decode cX5_end 57 = .ok (.iconst 1, 1) := by decide +kernel
theorem dX5_end_58 : decode cX5_end 58 = .ok (.goto 27, 3) := by decide +kernel
theorem dX5_end_61 : decode cX5_end 61 = .ok (.iconst 0, 1) := by decide +kernel
theorem dX5_end_62 : decode cX5_end 62 = .ok (.goto 23, 3) := by decide +kernel
theorem dX5_end_65 : decode cX5_end 65 = .ok (.aload_n 0, 1) := by decide +kernel
theorem dX5_end_66 : decode cX5_end 66 = .ok (.getfield 28, 3) := by decide +kernel
theorem dX5_end_69 : decode cX5_end 69 = .ok (.iconst 0, 1) := by decide +kernel
theorem dX5_end_70 : decode cX5_end 70 = .ok (.iaload, 1) := by decide +kernel
theorem dX5_end_71 : decode cX5_end 71 = .ok (.aload_n 0, 1) := by decide +kernel
theorem dX5_end_72 : decode cX5_end 72 = .ok (.getfield 28, 3) := by decide +kernel
theorem dX5_end_75 : decode cX5_end 75 = .ok (.iconst 1, 1) := by decide +kernel
theorem dX5_end_76 : decode cX5_end 76 = .ok (.iaload, 1) := by decide +kernel
theorem dX5_end_77 : decode cX5_end 77 = .ok (.if_icmp .ne 7, 3) := by decide +kernel
theorem dX5_end_80 : decode cX5_end 80 = .ok (.iconst 1, 1) := by decide +kernel
theorem dX5_end_81 : decode cX5_end 81 = .ok (.goto 4, 3) := by decide +kernel
theorem dX5_end_84 : decode cX5_end 84 = .ok (.iconst 0, 1) := by decide +kernel
theorem dX5_end_85 : decode cX5_end 85 = .ok (.ireturn, 1) := by decide +kernel
theorem dX5_run_0 : decode cX5_run 0 = .ok (.aload_n 0, 1) := by decide +kernel
theorem dX5_run_1 : decode cX5_run 1 = .ok (.iload_n 1, 1) := by decide +kernel
theorem dX5_run_2 : decode cX5_run 2 = .ok (.invokevirtual 101, 3) := by decide +kernel
theorem dX5_run_5 : decode cX5_run 5 = .ok (.ifCond .eq 23, 3) := by decide +kernel
theorem dX5_run_8 : decode cX5_run 8 = .ok (.iload_n 2, 1) := by decide +kernel
theorem dX5_run_9 : decode cX5_run 9 = .ok (.iconst 0, 1) := by decide +kernel
theorem dX5_run_10 : decode cX5_run 10 = .ok (.bipush 9, 2) := by decide +kernel
theorem dX5_run_12 : decode cX5_run 12 = .ok (.invokestatic 97, 3) := by decide +kernel
theorem dX5_run_15 : decode cX5_run 15 = .ok (.ifCond .eq 13, 3) := by decide +kernel
theorem dX5_run_18 : decode cX5_run 18 = .ok (.iload_n 3, 1) := by decide +kernel
theorem dX5_run_19 : decode cX5_run 19 = .ok (.iconst 0, 1) := by decide +kernel
theorem dX5_run_20 : decode cX5_run 20 = .ok (.bipush 63, 2) := by decide +kernel
theorem dX5_run_22 : decode cX5_run 22 = .ok (.invokestatic 97, 3) := by decide +kernel
theorem dX5_run_25 : decode cX5_run 25 = .ok (.ifCond .ne 5, 3) := by decide +kernel
theorem dX5_run_28 : decode cX5_run 28 = .ok (.iconst (-1), 1) := by decide +kernel
theorem dX5_run_29 : decode cX5_run 29 = .ok (.ireturn, 1) := by decide +kernel
theorem dX5_run_30 : decode cX5_run 30 = .ok (.aload_n 0, 1) := by decide +kernel
theorem dX5_run_31 : decode cX5_run 31 = .ok (.iload_n 1, 1) := by decide +kernel
theorem dX5_run_32 : decode cX5_run 32 = .ok (.invokevirtual 113, 3) := by decide +kernel
theorem dX5_run_35 : decode cX5_run 35 = .ok (.ifCond .ne 6, 3) := by decide +kernel
theorem dX5_run_38 : decode cX5_run 38 = .ok (.bipush (-3), 2) := by decide +kernel
theorem dX5_run_40 : decode cX5_run 40 = .ok (.ireturn, 1) := by decide +kernel
theorem dX5_run_41 : decode cX5_run 41 = .ok (.aload_n 0, 1) := by decide +kernel
theorem dX5_run_42 : decode cX5_run 42 = .ok (.iload_n 1, 1) := by decide +kernel
theorem dX5_run_43 : decode cX5_run 43 = .ok (.iload_n 2, 1) := by decide +kernel
theorem dX5_run_44 : decode cX5_run 44 = .ok (.iload_n 3, 1) := by decide +kernel
theorem dX5_run_45 : decode cX5_run 45 = .ok (.iconst (-1), 1) := by decide +kernel
theorem dX5_run_46 : decode cX5_run 46 = .ok (.iconst 0, 1) := by decide +kernel
theorem dX5_run_47 : decode cX5_run 47 = .ok (.invokevirtual 144, 3) := by decide +kernel
theorem dX5_run_50 : decode cX5_run 50 = .ok (.iconst 0, 1) := by decide +kernel
theorem dX5_run_51 : decode cX5_run 51 = .ok (.istore 4, 2) := by decide +kernel
theorem dX5_run_53 : decode cX5_run 53 = .ok (.iload 4, 2) := by decide +kernel
theorem dX5_run_55 : decode cX5_run 55 = .ok (.bipush 14, 2) := by decide +kernel
theorem dX5_run_57 : decode cX5_run 57 = .ok (.if_icmp .ge 22, 3) := by decide +kernel
theorem dX5_run_60 : decode cX5_run 60 = .ok (.aload_n 0, 1) := by decide +kernel
theorem dX5_run_61 : decode cX5_run 61 = .ok (.getfield 38, 3) := by decide +kernel
theorem dX5_run_64 : decode cX5_run 64 = .ok (.iload 4, 2) := by decide +kernel
theorem dX5_run_66 : decode cX5_run 66 = .ok (.aload_n 0, 1) := by decide +kernel
theorem dX5_run_67 : decode cX5_run 67 = .ok (.iload 4, 2) := by decide +kernel
theorem dX5_run_69 : decode cX5_run 69 = .ok (.invokevirtual 148, 3) := by decide +kernel
theorem dX5_run_72 : decode cX5_run 72 = .ok (.iastore, 1) := by decide +kernel
theorem dX5_run_73 : decode cX5_run 73 = .ok (.iinc 4 1, 3) := by decide +kernel
theorem dX5_run_76 : decode cX5_run 76 = .ok (.goto (-23), 3) := by decide +kernel
theorem dX5_run_79 : decode cX5_run 79 = .ok (.aload_n 0, 1) := by decide +kernel
theorem dX5_run_80 : decode cX5_run 80 = .ok (.aload_n 0, 1) := by decide +kernel
theorem dX5_run_81 : decode cX5_run 81 = .ok (.getfield 19, 3) := by decide +kernel
theorem dX5_run_84 : decode cX5_run 84 = .ok (.iload_n 1, 1) := by decide +kernel
theorem dX5_run_85 : decode cX5_run 85 = .ok (.iaload, 1) := by decide +kernel
theorem dX5_run_86 : decode cX5_run 86 = .ok (.putfield 44, 3) := by decide +kernel
theorem dX5_run_89 : decode cX5_run 89 = .ok (.iconst 0, 1) := by decide +kernel
theorem dX5_run_90 : decode cX5_run 90 = .ok (.istore 4, 2) := by decide +kernel
theorem dX5_run_92 : decode cX5_run 92 = .ok (.iload 4, 2) := by decide +kernel
theorem dX5_run_94 : decode cX5_run 94 = .ok (.bipush 20, 2) := by decide +kernel
theorem dX5_run_96 : decode cX5_run 96 = .ok (.if_icmp .ge 23, 3) := by decide +kernel
theorem dX5_run_99 : decode cX5_run 99 = .ok (.aload_n 0, 1) := by decide +kernel
theorem dX5_run_100 : decode cX5_run 100 = .ok (.getfield 41, 3) := by decide +kernel
theorem dX5_run_103 : decode cX5_run 103 = .ok (.iload 4, 2) := by decide +kernel
theorem dX5_run_105 : decode cX5_run 105 = .ok (.aload_n 0, 1) := by decide +kernel
theorem dX5_run_106 : decode cX5_run 106 = .ok (.getfield 35, 3) := by decide +kernel
theorem dX5_run_109 : decode cX5_run 109 = .ok (.iload 4, 2) := by decide +kernel
theorem dX5_run_111 : decode cX5_run 111 = .ok (.iaload, 1) := by decide +kernel
theorem dX5_run_112 : decode cX5_run 112 = .ok (.iastore, 1) := by decide +kernel
theorem dX5_run_113 : decode cX5_run 113 = .ok (.iinc 4 1, 3) := by decide +kernel
theorem dX5_run_116 : decode cX5_run 116 = .ok (.goto (-24), 3) := by decide +kernel
theorem dX5_run_119 : decode cX5_run 119 = .ok (.aload_n 0, 1) := by decide +kernel
theorem dX5_run_120 : decode cX5_run 120 = .ok (.getfield 116, 3) := by decide +kernel
theorem dX5_run_123 : decode cX5_run 123 = .ok (.ireturn, 1) := by decide +kernel
theorem dX5_told_0 : decode cX5_told 0 = .ok (.aload_n 0, 1) := by decide +kernel
theorem dX5_told_1 : decode cX5_told 1 = .ok (.getfield 44, 3) := by decide +kernel
theorem dX5_told_4 : decode cX5_told 4 = .ok (.ifCond .lt 22, 3) := by decide +kernel
theorem dX5_told_7 : decode cX5_told 7 = .ok (.iload_n 1, 1) := by decide +kernel
theorem dX5_told_8 : decode cX5_told 8 = .ok (.iconst 0, 1) := by decide +kernel
theorem dX5_told_9 : decode cX5_told 9 = .ok (.bipush 13, 2) := by decide +kernel
theorem dX5_told_11 : decode cX5_told 11 = .ok (.invokestatic 97, 3) := by decide +kernel
theorem dX5_told_14 : decode cX5_told 14 = .ok (.ifCond .eq 12, 3) := by decide +kernel
theorem dX5_told_17 : decode cX5_told 17 = .ok (.aload_n 0, 1) := by decide +kernel
theorem dX5_told_18 : decode cX5_told 18 = .ok (.getfield 38, 3) := by decide +kernel
theorem dX5_told_21 : decode cX5_told 21 = .ok (.iload_n 1, 1) := by decide +kernel
theorem dX5_told_22 : decode cX5_told 22 = .ok (.iaload, 1) := by decide +kernel
theorem dX5_told_23 : decode cX5_told 23 = .ok (.goto 5, 3) := by decide +kernel
theorem dX5_told_26 : decode cX5_told 26 = .ok (.ldc 112, 2) := by decide +kernel
theorem dX5_told_28 : decode cX5_told 28 = .ok (.ireturn, 1) := by decide +kernel
theorem dX5_done_0 : decode cX5_done 0 = .ok (.iload_n 1, 1) := by decide +kernel
theorem dX5_done_1 : decode cX5_done 1 = .ok (.ifCond .lt 20, 3) := by decide +kernel
theorem dX5_done_4 : decode cX5_done 4 = .ok (.iload_n 1, 1) := by decide +kernel
theorem dX5_done_5 : decode cX5_done 5 = .ok (.aload_n 0, 1) := by decide +kernel
theorem dX5_done_6 : decode cX5_done 6 = .ok (.getfield 44, 3) := by decide +kernel
theorem dX5_done_9 : decode cX5_done 9 = .ok (.if_icmp .ge 12, 3) := by decide +kernel
theorem dX5_done_12 : decode cX5_done 12 = .ok (.aload_n 0, 1) := by decide +kernel
theorem dX5_done_13 : decode cX5_done 13 = .ok (.getfield 41, 3) := by decide +kernel
theorem dX5_done_16 : decode cX5_done 16 = .ok (.iload_n 1, 1) := by decide +kernel
theorem dX5_done_17 : decode cX5_done 17 = .ok (.iaload, 1) := by decide +kernel
theorem dX5_done_18 : decode cX5_done 18 = .ok (.goto 4, 3) := by decide +kernel
theorem dX5_done_21 : decode cX5_done 21 = .ok (.iconst (-1), 1) := by decide +kernel
theorem dX5_done_22 : decode cX5_done 22 = .ok (.ireturn, 1) := by decide +kernel
theorem dX5_question_0 : decode cX5_question 0 = .ok (.aload_n 0, 1) := by decide +kernel
theorem dX5_question_1 : decode cX5_question 1 = .ok (.iload_n 1, 1) := by decide +kernel
theorem dX5_question_2 : decode cX5_question 2 = .ok (.invokevirtual 101, 3) := by decide +kernel
theorem dX5_question_5 : decode cX5_question 5 = .ok (.ifCond .eq 57, 3) := by decide +kernel
theorem dX5_question_8 : decode cX5_question 8 = .ok (.iload_n 2, 1) := by decide +kernel
theorem dX5_question_9 : decode cX5_question 9 = .ok (.iconst 0, 1) := by decide +kernel
theorem dX5_question_10 : decode cX5_question 10 = .ok (.bipush 9, 2) := by decide +kernel
theorem dX5_question_12 : decode cX5_question 12 = .ok (.invokestatic 97, 3) := by decide +kernel
theorem dX5_question_15 : decode cX5_question 15 = .ok (.ifCond .eq 47, 3) := by decide +kernel
theorem dX5_question_18 : decode cX5_question 18 = .ok (.iload_n 3, 1) := by decide +kernel
theorem dX5_question_19 : decode cX5_question 19 = .ok (.iconst 0, 1) := by decide +kernel
theorem dX5_question_20 : decode cX5_question 20 = .ok (.iconst 2, 1) := by decide +kernel
theorem dX5_question_21 : decode cX5_question 21 = .ok (.invokestatic 97, 3) := by decide +kernel
theorem dX5_question_24 : decode cX5_question 24 = .ok (.ifCond .eq 38, 3) := by decide +kernel
theorem dX5_question_27 : decode cX5_question 27 = .ok (.iload 4, 2) := by decide +kernel
theorem dX5_question_29 : decode cX5_question 29 = .ok (.iconst 0, 1) := by decide +kernel
theorem dX5_question_30 : decode cX5_question 30 = .ok (.iload_n 3, 1) := by decide +kernel
theorem dX5_question_31 : decode cX5_question 31 = .ok (.ifCond .ne 7, 3) := by decide +kernel
theorem dX5_question_34 : decode cX5_question 34 = .ok (.iconst 3, 1) := by decide +kernel
theorem dX5_question_35 : decode cX5_question 35 = .ok (.goto 21, 3) := by decide +kernel
theorem dX5_question_38 : decode cX5_question 38 = .ok (.iload_n 3, 1) := by decide +kernel
theorem dX5_question_39 : decode cX5_question 39 = .ok (.iconst 1, 1) := by decide +kernel
theorem dX5_question_40 : decode cX5_question 40 = .ok (.if_icmp .ne 14, 3) := by decide +kernel
theorem dX5_question_43 : decode cX5_question 43 = .ok (.aload_n 0, 1) := by decide +kernel
theorem dX5_question_44 : decode cX5_question 44 = .ok (.getfield 19, 3) := by decide +kernel
theorem dX5_question_47 : decode cX5_question 47 = .ok (.iload_n 1, 1) := by decide +kernel
theorem dX5_question_48 : decode cX5_question 48 = .ok (.iaload, 1) := by decide +kernel
theorem dX5_question_49 : decode cX5_question 49 = .ok (.iconst 1, 1) := by decide +kernel
theorem dX5_question_50 : decode cX5_question 50 = .ok (.isub, 1) := by decide +kernel
theorem dX5_question_51 : decode cX5_question 51 = .ok (.goto 5, 3) := by decide +kernel
theorem dX5_question_54 : decode cX5_question 54 = .ok (.bipush 7, 2) := by decide +kernel
theorem dX5_question_56 : decode cX5_question 56 = .ok (.invokestatic 97, 3) := by decide +kernel
theorem dX5_question_59 : decode cX5_question 59 = .ok (.ifCond .ne 5, 3) := by decide +kernel
theorem dX5_question_62 : decode cX5_question 62 = .ok (.iconst (-1), 1) := by decide +kernel
theorem dX5_question_63 : decode cX5_question 63 = .ok (.ireturn, 1) := by decide +kernel
theorem dX5_question_64 : decode cX5_question 64 = .ok (.aload_n 0, 1) := by decide +kernel
theorem dX5_question_65 : decode cX5_question 65 = .ok (.iload_n 1, 1) := by decide +kernel
theorem dX5_question_66 : decode cX5_question 66 = .ok (.invokevirtual 113, 3) := by decide +kernel
theorem dX5_question_69 : decode cX5_question 69 = .ok (.ifCond .ne 6, 3) := by decide +kernel
theorem dX5_question_72 : decode cX5_question 72 = .ok (.bipush (-3), 2) := by decide +kernel
theorem dX5_question_74 : decode cX5_question 74 = .ok (.ireturn, 1) := by decide +kernel
theorem dX5_question_75 : decode cX5_question 75 = .ok (.aload_n 0, 1) := by decide +kernel
theorem dX5_question_76 : decode cX5_question 76 = .ok (.iload_n 1, 1) := by decide +kernel
theorem dX5_question_77 : decode cX5_question 77 = .ok (.iload_n 2, 1) := by decide +kernel
theorem dX5_question_78 : decode cX5_question 78 = .ok (.iconst 0, 1) := by decide +kernel
theorem dX5_question_79 : decode cX5_question 79 = .ok (.iconst (-1), 1) := by decide +kernel
theorem dX5_question_80 : decode cX5_question 80 = .ok (.iconst 0, 1) := by decide +kernel
theorem dX5_question_81 : decode cX5_question 81 = .ok (.invokevirtual 144, 3) := by decide +kernel
theorem dX5_question_84 : decode cX5_question 84 = .ok (.aload_n 0, 1) := by decide +kernel
theorem dX5_question_85 : decode cX5_question 85 = .ok (.getfield 119, 3) := by decide +kernel
theorem dX5_question_88 : decode cX5_question 88 = .ok (.ifCond .eq 6, 3) := by decide +kernel
theorem dX5_question_91 : decode cX5_question 91 = .ok (.bipush (-3), 2) := by decide +kernel
theorem dX5_question_93 : decode cX5_question 93 = .ok (.ireturn, 1) := by decide +kernel
theorem dX5_question_94 : decode cX5_question 94 = .ok (.aload_n 0, 1) := by decide +kernel
theorem dX5_question_95 : decode cX5_question 95 = .ok (.getfield 94, 3) := by decide +kernel
theorem dX5_question_98 : decode cX5_question 98 = .ok (.bipush 60, 2) := by decide +kernel
theorem dX5_question_100 : decode cX5_question 100 = .ok (.if_icmp .ne 6, 3) := by decide +kernel
theorem dX5_question_103 : decode cX5_question 103 = .ok (.bipush (-2), 2) := by decide +kernel
theorem dX5_question_105 : decode cX5_question 105 = .ok (.ireturn, 1) := by decide +kernel
theorem dX5_question_106 : decode cX5_question 106 = .ok (.aload_n 0, 1) := by decide +kernel
theorem dX5_question_107 : decode cX5_question 107 = .ok (.getfield 48, 3) := by decide +kernel
theorem dX5_question_110 : decode cX5_question 110 = .ok (.aload_n 0, 1) := by decide +kernel
theorem dX5_question_111 : decode cX5_question 111 = .ok (.getfield 94, 3) := by decide +kernel
theorem dX5_question_114 : decode cX5_question 114 = .ok (.iload_n 1, 1) := by decide +kernel
theorem dX5_question_115 : decode cX5_question 115 = .ok (.iastore, 1) := by decide +kernel
theorem dX5_question_116 : decode cX5_question 116 = .ok (.aload_n 0, 1) := by decide +kernel
theorem dX5_question_117 : decode cX5_question 117 = .ok (.getfield 51, 3) := by decide +kernel
theorem dX5_question_120 : decode cX5_question 120 = .ok (.aload_n 0, 1) := by decide +kernel
theorem dX5_question_121 : decode cX5_question 121 = .ok (.getfield 94, 3) := by decide +kernel
theorem dX5_question_124 : decode cX5_question 124 = .ok (.iload_n 2, 1) := by decide +kernel
theorem dX5_question_125 : decode cX5_question 125 = .ok (.iastore, 1) := by decide +kernel
theorem dX5_question_126 : decode cX5_question 126 = .ok (.aload_n 0, 1) := by decide +kernel
theorem dX5_question_127 : decode cX5_question 127 = .ok (.getfield 54, 3) := by decide +kernel
theorem dX5_question_130 : decode cX5_question 130 = .ok (.aload_n 0, 1) := by decide +kernel
theorem dX5_question_131 : decode cX5_question 131 = .ok (.getfield 94, 3) := by decide +kernel
theorem dX5_question_134 : decode cX5_question 134 = .ok (.iload_n 3, 1) := by decide +kernel
theorem dX5_question_135 : decode cX5_question 135 = .ok (.iastore, 1) := by decide +kernel
theorem dX5_question_136 : decode cX5_question 136 = .ok (.aload_n 0, 1) := by decide +kernel
theorem dX5_question_137 : decode cX5_question 137 = .ok (.getfield 57, 3) := by decide +kernel
theorem dX5_question_140 : decode cX5_question 140 = .ok (.aload_n 0, 1) := by decide +kernel
theorem dX5_question_141 : decode cX5_question 141 = .ok (.getfield 94, 3) := by decide +kernel
theorem dX5_question_144 : decode cX5_question 144 = .ok (.iload 4, 2) := by decide +kernel
theorem dX5_question_146 : decode cX5_question 146 = .ok (.iastore, 1) := by decide +kernel
theorem dX5_question_147 : decode cX5_question 147 = .ok (.aload_n 0, 1) := by decide +kernel
theorem dX5_question_148 : decode cX5_question 148 = .ok (.dup, 1) := by decide +kernel
theorem dX5_question_149 : decode cX5_question 149 = .ok (.getfield 94, 3) := by decide +kernel
theorem dX5_question_152 : decode cX5_question 152 = .ok (.iconst 1, 1) := by decide +kernel
theorem dX5_question_153 : decode cX5_question 153 = .ok (.iadd, 1) := by decide +kernel
theorem dX5_question_154 : decode cX5_question 154 = .ok (.putfield 94, 3) := by decide +kernel
theorem dX5_question_157 : decode cX5_question 157 = .ok (.aload_n 0, 1) := by decide +kernel
theorem dX5_question_158 : decode cX5_question 158 = .ok (.getfield 94, 3) := by decide +kernel
theorem dX5_question_161 : decode cX5_question 161 = .ok (.iconst 1, 1) := by decide +kernel
theorem dX5_question_162 : decode cX5_question 162 = .ok (.isub, 1) := by decide +kernel
theorem dX5_question_163 : decode cX5_question 163 = .ok (.ireturn, 1) := by decide +kernel
theorem dX5_answerOf_0 : decode cX5_answerOf 0 = .ok (.aload_n 0, 1) := by decide +kernel
theorem dX5_answerOf_1 : decode cX5_answerOf 1 = .ok (.aload_n 0, 1) := by decide +kernel
theorem dX5_answerOf_2 : decode cX5_answerOf 2 = .ok (.getfield 48, 3) := by decide +kernel
theorem dX5_answerOf_5 : decode cX5_answerOf 5 = .ok (.iload_n 1, 1) := by decide +kernel
theorem dX5_answerOf_6 : decode cX5_answerOf 6 = .ok (.iaload, 1) := by decide +kernel
theorem dX5_answerOf_7 : decode cX5_answerOf 7 = .ok (.aload_n 0, 1) := by decide +kernel
theorem dX5_answerOf_8 : decode cX5_answerOf 8 = .ok (.getfield 51, 3) := by decide +kernel
theorem dX5_answerOf_11 : decode cX5_answerOf 11 = .ok (.iload_n 1, 1) := by decide +kernel
theorem dX5_answerOf_12 : decode cX5_answerOf 12 = .ok (.iaload, 1) := by decide +kernel
theorem dX5_answerOf_13 : decode cX5_answerOf 13 = .ok (.iload_n 2, 1) := by decide +kernel
theorem dX5_answerOf_14 : decode cX5_answerOf 14 = .ok (.iconst (-1), 1) := by decide +kernel
theorem dX5_answerOf_15 : decode cX5_answerOf 15 = .ok (.iconst 0, 1) := by decide +kernel
theorem dX5_answerOf_16 : decode cX5_answerOf 16 = .ok (.invokevirtual 144, 3) := by decide +kernel
theorem dX5_answerOf_19 : decode cX5_answerOf 19 = .ok (.aload_n 0, 1) := by decide +kernel
theorem dX5_answerOf_20 : decode cX5_answerOf 20 = .ok (.getfield 54, 3) := by decide +kernel
theorem dX5_answerOf_23 : decode cX5_answerOf 23 = .ok (.iload_n 1, 1) := by decide +kernel
theorem dX5_answerOf_24 : decode cX5_answerOf 24 = .ok (.iaload, 1) := by decide +kernel
theorem dX5_answerOf_25 : decode cX5_answerOf 25 = .ok (.ifCond .ne 17, 3) := by decide +kernel
theorem dX5_answerOf_28 : decode cX5_answerOf 28 = .ok (.aload_n 0, 1) := by decide +kernel
theorem dX5_answerOf_29 : decode cX5_answerOf 29 = .ok (.getfield 22, 3) := by decide +kernel
theorem dX5_answerOf_32 : decode cX5_answerOf 32 = .ok (.aload_n 0, 1) := by decide +kernel
theorem dX5_answerOf_33 : decode cX5_answerOf 33 = .ok (.getfield 57, 3) := by decide +kernel
theorem dX5_answerOf_36 : decode cX5_answerOf 36 = .ok (.iload_n 1, 1) := by decide +kernel
theorem dX5_answerOf_37 : decode cX5_answerOf 37 = .ok (.iaload, 1) := by decide +kernel
theorem dX5_answerOf_38 : decode cX5_answerOf 38 = .ok (.iaload, 1) := by decide +kernel
theorem dX5_answerOf_39 : decode cX5_answerOf 39 = .ok (.goto 39, 3) := by decide +kernel
theorem dX5_answerOf_42 : decode cX5_answerOf 42 = .ok (.aload_n 0, 1) := by decide +kernel
theorem dX5_answerOf_43 : decode cX5_answerOf 43 = .ok (.getfield 54, 3) := by decide +kernel
theorem dX5_answerOf_46 : decode cX5_answerOf 46 = .ok (.iload_n 1, 1) := by decide +kernel
theorem dX5_answerOf_47 : decode cX5_answerOf 47 = .ok (.iaload, 1) := by decide +kernel
theorem dX5_answerOf_48 : decode cX5_answerOf 48 = .ok (.iconst 1, 1) := by decide +kernel
theorem dX5_answerOf_49 : decode cX5_answerOf 49 = .ok (.if_icmp .ne 17, 3) := by decide +kernel
theorem dX5_answerOf_52 : decode cX5_answerOf 52 = .ok (.aload_n 0, 1) := by decide +kernel
theorem dX5_answerOf_53 : decode cX5_answerOf 53 = .ok (.getfield 35, 3) := by decide +kernel
theorem dX5_answerOf_56 : decode cX5_answerOf 56 = .ok (.aload_n 0, 1) := by decide +kernel
theorem dX5_answerOf_57 : decode cX5_answerOf 57 = .ok (.getfield 57, 3) := by decide +kernel
theorem dX5_answerOf_60 : decode cX5_answerOf 60 = .ok (.iload_n 1, 1) := by decide +kernel
theorem dX5_answerOf_61 : decode cX5_answerOf 61 = .ok (.iaload, 1) := by decide +kernel
theorem dX5_answerOf_62 : decode cX5_answerOf 62 = .ok (.iaload, 1) := by decide +kernel
theorem dX5_answerOf_63 : decode cX5_answerOf 63 = .ok (.goto 15, 3) := by decide +kernel
theorem dX5_answerOf_66 : decode cX5_answerOf 66 = .ok (.aload_n 0, 1) := by decide +kernel
theorem dX5_answerOf_67 : decode cX5_answerOf 67 = .ok (.iconst 4, 1) := by decide +kernel
theorem dX5_answerOf_68 : decode cX5_answerOf 68 = .ok (.aload_n 0, 1) := by decide +kernel
theorem dX5_answerOf_69 : decode cX5_answerOf 69 = .ok (.getfield 57, 3) := by decide +kernel
theorem dX5_answerOf_72 : decode cX5_answerOf 72 = .ok (.iload_n 1, 1) := by decide +kernel
theorem dX5_answerOf_73 : decode cX5_answerOf 73 = .ok (.iaload, 1) := by decide +kernel
theorem dX5_answerOf_74 : decode cX5_answerOf 74 = .ok (.iadd, 1) := by decide +kernel
theorem dX5_answerOf_75 : decode cX5_answerOf 75 = .ok (.invokevirtual 148, 3) := by decide +kernel
theorem dX5_answerOf_78 : decode cX5_answerOf 78 = .ok (.ireturn, 1) := by decide +kernel
theorem dX5_answer_0 : decode cX5_answer 0 = .ok (.aload_n 0, 1) := by decide +kernel
theorem dX5_answer_1 : decode cX5_answer 1 = .ok (.iload_n 1, 1) := by decide +kernel
theorem dX5_answer_2 : decode cX5_answer 2 = .ok (.invokevirtual 152, 3) := by decide +kernel
theorem dX5_answer_5 : decode cX5_answer 5 = .ok (.ifCond .eq 22, 3) := by decide +kernel
theorem dX5_answer_8 : decode cX5_answer 8 = .ok (.iload_n 2, 1) := by decide +kernel
theorem dX5_answer_9 : decode cX5_answer 9 = .ok (.iconst 0, 1) := by decide +kernel
theorem dX5_answer_10 : decode cX5_answer 10 = .ok (.bipush 63, 2) := by decide +kernel
theorem dX5_answer_12 : decode cX5_answer 12 = .ok (.invokestatic 97, 3) := by decide +kernel
theorem dX5_answer_15 : decode cX5_answer 15 = .ok (.ifCond .eq 12, 3) := by decide +kernel
theorem dX5_answer_18 : decode cX5_answer 18 = .ok (.aload_n 0, 1) := by decide +kernel
theorem dX5_answer_19 : decode cX5_answer 19 = .ok (.iload_n 1, 1) := by decide +kernel
theorem dX5_answer_20 : decode cX5_answer 20 = .ok (.iload_n 2, 1) := by decide +kernel
theorem dX5_answer_21 : decode cX5_answer 21 = .ok (.invokevirtual 155, 3) := by decide +kernel
theorem dX5_answer_24 : decode cX5_answer 24 = .ok (.goto 5, 3) := by decide +kernel
theorem dX5_answer_27 : decode cX5_answer 27 = .ok (.ldc 112, 2) := by decide +kernel
theorem dX5_answer_29 : decode cX5_answer 29 = .ok (.ireturn, 1) := by decide +kernel
theorem dX5_choices_0 : decode cX5_choices 0 = .ok (.aload_n 0, 1) := by decide +kernel
theorem dX5_choices_1 : decode cX5_choices 1 = .ok (.iload_n 1, 1) := by decide +kernel
theorem dX5_choices_2 : decode cX5_choices 2 = .ok (.invokevirtual 152, 3) := by decide +kernel
theorem dX5_choices_5 : decode cX5_choices 5 = .ok (.ifCond .eq 13, 3) := by decide +kernel
theorem dX5_choices_8 : decode cX5_choices 8 = .ok (.iload_n 2, 1) := by decide +kernel
theorem dX5_choices_9 : decode cX5_choices 9 = .ok (.iconst 2, 1) := by decide +kernel
theorem dX5_choices_10 : decode cX5_choices 10 = .ok (.bipush 6, 2) := by decide +kernel
theorem dX5_choices_12 : decode cX5_choices 12 = .ok (.invokestatic 97, 3) := by decide +kernel
theorem dX5_choices_15 : decode cX5_choices 15 = .ok (.ifCond .ne 5, 3) := by decide +kernel
theorem dX5_choices_18 : decode cX5_choices 18 = .ok (.iconst (-1), 1) := by decide +kernel
theorem dX5_choices_19 : decode cX5_choices 19 = .ok (.ireturn, 1) := by decide +kernel
theorem dX5_choices_20 : decode cX5_choices 20 = .ok (.iconst 0, 1) := by decide +kernel
theorem dX5_choices_21 : decode cX5_choices 21 = .ok (.istore_n 3, 1) := by decide +kernel
theorem dX5_choices_22 : decode cX5_choices 22 = .ok (.iconst (-1), 1) := by decide +kernel
theorem dX5_choices_23 : decode cX5_choices 23 = .ok (.istore 4, 2) := by decide +kernel
theorem dX5_choices_25 : decode cX5_choices 25 = .ok (.iload 4, 2) := by decide +kernel
theorem dX5_choices_27 : decode cX5_choices 27 = .ok (.bipush 6, 2) := by decide +kernel
theorem dX5_choices_29 : decode cX5_choices 29 = .ok (.if_icmp .ge 115, 3) := by decide +kernel
theorem dX5_choices_32 : decode cX5_choices 32 = .ok (.aload_n 0, 1) := by decide +kernel
theorem dX5_choices_33 : decode cX5_choices 33 = .ok (.iload_n 1, 1) := by decide +kernel
theorem dX5_choices_34 : decode cX5_choices 34 = .ok (.iload 4, 2) := by decide +kernel
theorem dX5_choices_36 : decode cX5_choices 36 = .ok (.ifCond .ge 7, 3) := by decide +kernel
theorem dX5_choices_39 : decode cX5_choices 39 = .ok (.iconst 0, 1) := by decide +kernel
theorem dX5_choices_40 : decode cX5_choices 40 = .ok (.goto 7, 3) := by decide +kernel
theorem dX5_choices_43 : decode cX5_choices 43 = .ok (.iconst 1, 1) := by decide +kernel
theorem dX5_choices_44 : decode cX5_choices 44 = .ok (.iload 4, 2) := by decide +kernel
theorem dX5_choices_46 : decode cX5_choices 46 = .ok (.ishl, 1) := by decide +kernel
theorem dX5_choices_47 : decode cX5_choices 47 = .ok (.invokevirtual 155, 3) := by decide +kernel
theorem dX5_choices_50 : decode cX5_choices 50 = .ok (.istore 5, 2) := by decide +kernel
theorem dX5_choices_52 : decode cX5_choices 52 = .ok (.iload_n 3, 1) := by decide +kernel
theorem dX5_choices_53 : decode cX5_choices 53 = .ok (.iload_n 2, 1) := by decide +kernel
theorem dX5_choices_54 : decode cX5_choices 54 = .ok (.if_icmp .ge 7, 3) := by decide +kernel
theorem dX5_choices_57 : decode cX5_choices 57 = .ok (.iconst 1, 1) := by decide +kernel
theorem dX5_choices_58 : decode cX5_choices 58 = .ok (.goto 4, 3) := by decide +kernel
theorem dX5_choices_61 : decode cX5_choices 61 = .ok (.iconst 0, 1) := by decide +kernel
theorem dX5_choices_62 : decode cX5_choices 62 = .ok (.istore 6, 2) := by decide +kernel
theorem dX5_choices_64 : decode cX5_choices 64 = .ok (.iconst 0, 1) := by decide +kernel
theorem dX5_choices_65 : decode cX5_choices 65 = .ok (.istore 7, 2) := by decide +kernel
theorem dX5_choices_67 : decode cX5_choices 67 = .ok (.iload 7, 2) := by decide +kernel
theorem dX5_choices_69 : decode cX5_choices 69 = .ok (.iload_n 3, 1) := by decide +kernel
theorem dX5_choices_70 : decode cX5_choices 70 = .ok (.if_icmp .ge 33, 3) := by decide +kernel
theorem dX5_choices_73 : decode cX5_choices 73 = .ok (.iload 6, 2) := by decide +kernel
theorem dX5_choices_75 : decode cX5_choices 75 = .ok (.ifCond .eq 19, 3) := by decide +kernel
theorem dX5_choices_78 : decode cX5_choices 78 = .ok (.aload_n 0, 1) := by decide +kernel
theorem dX5_choices_79 : decode cX5_choices 79 = .ok (.getfield 85, 3) := by decide +kernel
theorem dX5_choices_82 : decode cX5_choices 82 = .ok (.iload 7, 2) := by decide +kernel
theorem dX5_choices_84 : decode cX5_choices 84 = .ok (.iaload, 1) := by decide +kernel
theorem dX5_choices_85 : decode cX5_choices 85 = .ok (.iload 5, 2) := by decide +kernel
theorem dX5_choices_87 : decode cX5_choices 87 = .ok (.if_icmp .eq 7, 3) := by decide +kernel
theorem dX5_choices_90 : decode cX5_choices 90 = .ok (.iconst 1, 1) := by decide +kernel
theorem dX5_choices_91 : decode cX5_choices 91 = .ok (.goto 4, 3) := by decide +kernel
theorem dX5_choices_94 : decode cX5_choices 94 = .ok (.iconst 0, 1) := by decide +kernel
theorem dX5_choices_95 : decode cX5_choices 95 = .ok (.istore 6, 2) := by decide +kernel
theorem dX5_choices_97 : decode cX5_choices 97 = .ok (.iinc 7 1, 3) := by decide +kernel
theorem dX5_choices_100 : decode cX5_choices 100 = .ok (.goto (-33), 3) := by decide +kernel
theorem dX5_choices_103 : decode cX5_choices 103 = .ok (.iload 6, 2) := by decide +kernel
theorem dX5_choices_105 : decode cX5_choices 105 = .ok (.ifCond .eq 33, 3) := by decide +kernel
theorem dX5_choices_108 : decode cX5_choices 108 = .ok (.aload_n 0, 1) := by decide +kernel
theorem dX5_choices_109 : decode cX5_choices 109 = .ok (.getfield 85, 3) := by decide +kernel
theorem dX5_choices_112 : decode cX5_choices 112 = .ok (.iload_n 3, 1) := by decide +kernel
theorem dX5_choices_113 : decode cX5_choices 113 = .ok (.iload 5, 2) := by decide +kernel
theorem dX5_choices_115 : decode cX5_choices 115 = .ok (.iastore, 1) := by decide +kernel
theorem dX5_choices_116 : decode cX5_choices 116 = .ok (.aload_n 0, 1) := by decide +kernel
theorem dX5_choices_117 : decode cX5_choices 117 = .ok (.getfield 82, 3) := by decide +kernel
theorem dX5_choices_120 : decode cX5_choices 120 = .ok (.iload_n 3, 1) := by decide +kernel
theorem dX5_choices_121 : decode cX5_choices 121 = .ok (.iload 4, 2) := by decide +kernel
theorem dX5_choices_123 : decode cX5_choices 123 = .ok (.ifCond .ge 7, 3) := by decide +kernel
theorem dX5_choices_126 : decode cX5_choices 126 = .ok (.iconst 0, 1) := by decide +kernel
theorem dX5_choices_127 : decode cX5_choices 127 = .ok (.goto 7, 3) := by decide +kernel
theorem dX5_choices_130 : decode cX5_choices 130 = .ok (.iconst 1, 1) := by decide +kernel
theorem dX5_choices_131 : decode cX5_choices 131 = .ok (.iload 4, 2) := by decide +kernel
theorem dX5_choices_133 : decode cX5_choices 133 = .ok (.ishl, 1) := by decide +kernel
theorem dX5_choices_134 : decode cX5_choices 134 = .ok (.iastore, 1) := by decide +kernel
theorem dX5_choices_135 : decode cX5_choices 135 = .ok (.iinc 3 1, 3) := by decide +kernel
theorem dX5_choices_138 : decode cX5_choices 138 = .ok (.iinc 4 1, 3) := by decide +kernel
theorem dX5_choices_141 : decode cX5_choices 141 = .ok (.goto (-116), 3) := by decide +kernel
theorem dX5_choices_144 : decode cX5_choices 144 = .ok (.iload_n 3, 1) := by decide +kernel
theorem dX5_choices_145 : decode cX5_choices 145 = .ok (.iload_n 2, 1) := by decide +kernel
theorem dX5_choices_146 : decode cX5_choices 146 = .ok (.if_icmp .ge 6, 3) := by decide +kernel
theorem dX5_choices_149 : decode cX5_choices 149 = .ok (.bipush (-3), 2) := by decide +kernel
theorem dX5_choices_151 : decode cX5_choices 151 = .ok (.ireturn, 1) := by decide +kernel
theorem dX5_choices_152 : decode cX5_choices 152 = .ok (.aload_n 0, 1) := by decide +kernel
theorem dX5_choices_153 : decode cX5_choices 153 = .ok (.iload_n 2, 1) := by decide +kernel
theorem dX5_choices_154 : decode cX5_choices 154 = .ok (.putfield 158, 3) := by decide +kernel
theorem dX5_choices_157 : decode cX5_choices 157 = .ok (.iconst 0, 1) := by decide +kernel
theorem dX5_choices_158 : decode cX5_choices 158 = .ok (.istore 4, 2) := by decide +kernel
theorem dX5_choices_160 : decode cX5_choices 160 = .ok (.iload 4, 2) := by decide +kernel
theorem dX5_choices_162 : decode cX5_choices 162 = .ok (.iload_n 2, 1) := by decide +kernel
theorem dX5_choices_163 : decode cX5_choices 163 = .ok (.if_icmp .ge 37, 3) := by decide +kernel
theorem dX5_choices_166 : decode cX5_choices 166 = .ok (.aload_n 0, 1) := by decide +kernel
theorem dX5_choices_167 : decode cX5_choices 167 = .ok (.getfield 60, 3) := by decide +kernel
theorem dX5_choices_170 : decode cX5_choices 170 = .ok (.iload 4, 2) := by decide +kernel
theorem dX5_choices_172 : decode cX5_choices 172 = .ok (.aload_n 0, 1) := by decide +kernel
theorem dX5_choices_173 : decode cX5_choices 173 = .ok (.getfield 85, 3) := by decide +kernel
theorem dX5_choices_176 : decode cX5_choices 176 = .ok (.iload 4, 2) := by decide +kernel
theorem dX5_choices_178 : decode cX5_choices 178 = .ok (.iaload, 1) := by decide +kernel
theorem dX5_choices_179 : decode cX5_choices 179 = .ok (.iastore, 1) := by decide +kernel
theorem dX5_choices_180 : decode cX5_choices 180 = .ok (.aload_n 0, 1) := by decide +kernel
theorem dX5_choices_181 : decode cX5_choices 181 = .ok (.getfield 63, 3) := by decide +kernel
theorem dX5_choices_184 : decode cX5_choices 184 = .ok (.iload 4, 2) := by decide +kernel
theorem dX5_choices_186 : decode cX5_choices 186 = .ok (.aload_n 0, 1) := by decide +kernel
theorem dX5_choices_187 : decode cX5_choices 187 = .ok (.getfield 82, 3) := by decide +kernel
theorem dX5_choices_190 : decode cX5_choices 190 = .ok (.iload 4, 2) := by decide +kernel
theorem dX5_choices_192 : decode cX5_choices 192 = .ok (.iaload, 1) := by decide +kernel
theorem dX5_choices_193 : decode cX5_choices 193 = .ok (.iastore, 1) := by decide +kernel
theorem dX5_choices_194 : decode cX5_choices 194 = .ok (.iinc 4 1, 3) := by decide +kernel
theorem dX5_choices_197 : decode cX5_choices 197 = .ok (.goto (-37), 3) := by decide +kernel
theorem dX5_choices_200 : decode cX5_choices 200 = .ok (.iload_n 2, 1) := by decide +kernel
theorem dX5_choices_201 : decode cX5_choices 201 = .ok (.ireturn, 1) := by decide +kernel
theorem dX5_choice_0 : decode cX5_choice 0 = .ok (.iload_n 1, 1) := by decide +kernel
theorem dX5_choice_1 : decode cX5_choice 1 = .ok (.ifCond .lt 42, 3) := by decide +kernel
theorem dX5_choice_4 : decode cX5_choice 4 = .ok (.iload_n 1, 1) := by decide +kernel
theorem dX5_choice_5 : decode cX5_choice 5 = .ok (.aload_n 0, 1) := by decide +kernel
theorem dX5_choice_6 : decode cX5_choice 6 = .ok (.getfield 158, 3) := by decide +kernel
theorem dX5_choice_9 : decode cX5_choice 9 = .ok (.if_icmp .ge 34, 3) := by decide +kernel
theorem dX5_choice_12 : decode cX5_choice 12 = .ok (.iload_n 2, 1) := by decide +kernel
theorem dX5_choice_13 : decode cX5_choice 13 = .ok (.iconst 0, 1) := by decide +kernel
theorem dX5_choice_14 : decode cX5_choice 14 = .ok (.iconst 1, 1) := by decide +kernel
theorem dX5_choice_15 : decode cX5_choice 15 = .ok (.invokestatic 97, 3) := by decide +kernel
theorem dX5_choice_18 : decode cX5_choice 18 = .ok (.ifCond .eq 25, 3) := by decide +kernel
theorem dX5_choice_21 : decode cX5_choice 21 = .ok (.iload_n 2, 1) := by decide +kernel
theorem dX5_choice_22 : decode cX5_choice 22 = .ok (.ifCond .ne 12, 3) := by decide +kernel
theorem dX5_choice_25 : decode cX5_choice 25 = .ok (.aload_n 0, 1) := by decide +kernel
theorem dX5_choice_26 : decode cX5_choice 26 = .ok (.getfield 60, 3) := by decide +kernel
theorem dX5_choice_29 : decode cX5_choice 29 = .ok (.iload_n 1, 1) := by decide +kernel
theorem dX5_choice_30 : decode cX5_choice 30 = .ok (.iaload, 1) := by decide +kernel
theorem dX5_choice_31 : decode cX5_choice 31 = .ok (.goto 14, 3) := by decide +kernel
theorem dX5_choice_34 : decode cX5_choice 34 = .ok (.aload_n 0, 1) := by decide +kernel
theorem dX5_choice_35 : decode cX5_choice 35 = .ok (.getfield 63, 3) := by decide +kernel
theorem dX5_choice_38 : decode cX5_choice 38 = .ok (.iload_n 1, 1) := by decide +kernel
theorem dX5_choice_39 : decode cX5_choice 39 = .ok (.iaload, 1) := by decide +kernel
theorem dX5_choice_40 : decode cX5_choice 40 = .ok (.goto 5, 3) := by decide +kernel
theorem dX5_choice_43 : decode cX5_choice 43 = .ok (.ldc 112, 2) := by decide +kernel
theorem dX5_choice_45 : decode cX5_choice 45 = .ok (.ireturn, 1) := by decide +kernel
theorem dX5_gap_0 : decode cX5_gap 0 = .ok (.aload_n 0, 1) := by decide +kernel
theorem dX5_gap_1 : decode cX5_gap 1 = .ok (.iload_n 1, 1) := by decide +kernel
theorem dX5_gap_2 : decode cX5_gap 2 = .ok (.invokevirtual 101, 3) := by decide +kernel
theorem dX5_gap_5 : decode cX5_gap 5 = .ok (.ifCond .eq 17, 3) := by decide +kernel
theorem dX5_gap_8 : decode cX5_gap 8 = .ok (.iload_n 2, 1) := by decide +kernel
theorem dX5_gap_9 : decode cX5_gap 9 = .ok (.ifCond .lt 13, 3) := by decide +kernel
theorem dX5_gap_12 : decode cX5_gap 12 = .ok (.iload_n 2, 1) := by decide +kernel
theorem dX5_gap_13 : decode cX5_gap 13 = .ok (.aload_n 0, 1) := by decide +kernel
theorem dX5_gap_14 : decode cX5_gap 14 = .ok (.getfield 19, 3) := by decide +kernel
theorem dX5_gap_17 : decode cX5_gap 17 = .ok (.iload_n 1, 1) := by decide +kernel
theorem dX5_gap_18 : decode cX5_gap 18 = .ok (.iaload, 1) := by decide +kernel
theorem dX5_gap_19 : decode cX5_gap 19 = .ok (.if_icmp .lt 5, 3) := by decide +kernel
theorem dX5_gap_22 : decode cX5_gap 22 = .ok (.iconst (-1), 1) := by decide +kernel
theorem dX5_gap_23 : decode cX5_gap 23 = .ok (.ireturn, 1) := by decide +kernel
theorem dX5_gap_24 : decode cX5_gap 24 = .ok (.aload_n 0, 1) := by decide +kernel
theorem dX5_gap_25 : decode cX5_gap 25 = .ok (.iload_n 1, 1) := by decide +kernel
theorem dX5_gap_26 : decode cX5_gap 26 = .ok (.invokevirtual 113, 3) := by decide +kernel
theorem dX5_gap_29 : decode cX5_gap 29 = .ok (.ifCond .eq 17, 3) := by decide +kernel
theorem dX5_gap_32 : decode cX5_gap 32 = .ok (.aload_n 0, 1) := by decide +kernel
theorem dX5_gap_33 : decode cX5_gap 33 = .ok (.getfield 9, 3) := by decide +kernel
theorem dX5_gap_36 : decode cX5_gap 36 = .ok (.bipush 20, 2) := by decide +kernel
theorem dX5_gap_38 : decode cX5_gap 38 = .ok (.iload_n 1, 1) := by decide +kernel
theorem dX5_gap_39 : decode cX5_gap 39 = .ok (.imul, 1) := by decide +kernel
theorem dX5_gap_40 : decode cX5_gap 40 = .ok (.iload_n 2, 1) := by decide +kernel
theorem dX5_gap_41 : decode cX5_gap 41 = .ok (.iadd, 1) := by decide +kernel
theorem dX5_gap_42 : decode cX5_gap 42 = .ok (.iaload, 1) := by decide +kernel
theorem dX5_gap_43 : decode cX5_gap 43 = .ok (.ifCond .eq 6, 3) := by decide +kernel
theorem dX5_gap_46 : decode cX5_gap 46 = .ok (.bipush (-3), 2) := by decide +kernel
theorem dX5_gap_48 : decode cX5_gap 48 = .ok (.ireturn, 1) := by decide +kernel
theorem dX5_gap_49 : decode cX5_gap 49 = .ok (.iconst 0, 1) := by decide +kernel
theorem dX5_gap_50 : decode cX5_gap 50 = .ok (.istore_n 3, 1) := by decide +kernel
theorem dX5_gap_51 : decode cX5_gap 51 = .ok (.iload_n 3, 1) := by decide +kernel
theorem dX5_gap_52 : decode cX5_gap 52 = .ok (.bipush 10, 2) := by decide +kernel
theorem dX5_gap_54 : decode cX5_gap 54 = .ok (.if_icmp .ge 52, 3) := by decide +kernel
theorem dX5_gap_57 : decode cX5_gap 57 = .ok (.aload_n 0, 1) := by decide +kernel
theorem dX5_gap_58 : decode cX5_gap 58 = .ok (.iload_n 1, 1) := by decide +kernel
theorem dX5_gap_59 : decode cX5_gap 59 = .ok (.iload_n 3, 1) := by decide +kernel
theorem dX5_gap_60 : decode cX5_gap 60 = .ok (.iconst 0, 1) := by decide +kernel
theorem dX5_gap_61 : decode cX5_gap 61 = .ok (.iconst (-1), 1) := by decide +kernel
theorem dX5_gap_62 : decode cX5_gap 62 = .ok (.iconst 0, 1) := by decide +kernel
theorem dX5_gap_63 : decode cX5_gap 63 = .ok (.invokevirtual 144, 3) := by decide +kernel
theorem dX5_gap_66 : decode cX5_gap 66 = .ok (.iconst 0, 1) := by decide +kernel
theorem dX5_gap_67 : decode cX5_gap 67 = .ok (.istore 4, 2) := by decide +kernel
theorem dX5_gap_69 : decode cX5_gap 69 = .ok (.iload 4, 2) := by decide +kernel
theorem dX5_gap_71 : decode cX5_gap 71 = .ok (.bipush 13, 2) := by decide +kernel
theorem dX5_gap_73 : decode cX5_gap 73 = .ok (.if_icmp .ge 27, 3) := by decide +kernel
theorem dX5_gap_76 : decode cX5_gap 76 = .ok (.aload_n 0, 1) := by decide +kernel
theorem dX5_gap_77 : decode cX5_gap 77 = .ok (.getfield 69, 3) := by decide +kernel
theorem dX5_gap_80 : decode cX5_gap 80 = .ok (.bipush 13, 2) := by decide +kernel
theorem dX5_gap_82 : decode cX5_gap 82 = .ok (.iload_n 3, 1) := by decide +kernel
theorem dX5_gap_83 : decode cX5_gap 83 = .ok (.imul, 1) := by decide +kernel
theorem dX5_gap_84 : decode cX5_gap 84 = .ok (.iload 4, 2) := by decide +kernel
theorem dX5_gap_86 : decode cX5_gap 86 = .ok (.iadd, 1) := by decide +kernel
theorem dX5_gap_87 : decode cX5_gap 87 = .ok (.aload_n 0, 1) := by decide +kernel
theorem dX5_gap_88 : decode cX5_gap 88 = .ok (.iload 4, 2) := by decide +kernel
theorem dX5_gap_90 : decode cX5_gap 90 = .ok (.invokevirtual 148, 3) := by decide +kernel
theorem dX5_gap_93 : decode cX5_gap 93 = .ok (.iastore, 1) := by decide +kernel
theorem dX5_gap_94 : decode cX5_gap 94 = .ok (.iinc 4 1, 3) := by decide +kernel
theorem dX5_gap_97 : decode cX5_gap 97 = .ok (.goto (-28), 3) := by decide +kernel
theorem dX5_gap_100 : decode cX5_gap 100 = .ok (.iinc 3 1, 3) := by decide +kernel
theorem dX5_gap_103 : decode cX5_gap 103 = .ok (.goto (-52), 3) := by decide +kernel
theorem dX5_gap_106 : decode cX5_gap 106 = .ok (.aload_n 0, 1) := by decide +kernel
theorem dX5_gap_107 : decode cX5_gap 107 = .ok (.iconst 0, 1) := by decide +kernel
theorem dX5_gap_108 : decode cX5_gap 108 = .ok (.putfield 161, 3) := by decide +kernel
theorem dX5_gap_111 : decode cX5_gap 111 = .ok (.bipush (-9), 2) := by decide +kernel
theorem dX5_gap_113 : decode cX5_gap 113 = .ok (.istore_n 3, 1) := by decide +kernel
theorem dX5_gap_114 : decode cX5_gap 114 = .ok (.iload_n 3, 1) := by decide +kernel
theorem dX5_gap_115 : decode cX5_gap 115 = .ok (.bipush 9, 2) := by decide +kernel
theorem dX5_gap_117 : decode cX5_gap 117 = .ok (.if_icmp .gt 149, 3) := by decide +kernel
theorem dX5_gap_120 : decode cX5_gap 120 = .ok (.iconst 1, 1) := by decide +kernel
theorem dX5_gap_121 : decode cX5_gap 121 = .ok (.istore 4, 2) := by decide +kernel
theorem dX5_gap_123 : decode cX5_gap 123 = .ok (.iconst 0, 1) := by decide +kernel
theorem dX5_gap_124 : decode cX5_gap 124 = .ok (.istore 5, 2) := by decide +kernel
theorem dX5_gap_126 : decode cX5_gap 126 = .ok (.iload 5, 2) := by decide +kernel
theorem dX5_gap_128 : decode cX5_gap 128 = .ok (.bipush 10, 2) := by decide +kernel
theorem dX5_gap_130 : decode cX5_gap 130 = .ok (.if_icmp .ge 105, 3) := by decide +kernel
theorem dX5_gap_133 : decode cX5_gap 133 = .ok (.aload_n 0, 1) := by decide +kernel
theorem dX5_gap_134 : decode cX5_gap 134 = .ok (.iload_n 1, 1) := by decide +kernel
theorem dX5_gap_135 : decode cX5_gap 135 = .ok (.iload 5, 2) := by decide +kernel
theorem dX5_gap_137 : decode cX5_gap 137 = .ok (.iconst 0, 1) := by decide +kernel
theorem dX5_gap_138 : decode cX5_gap 138 = .ok (.iload_n 2, 1) := by decide +kernel
theorem dX5_gap_139 : decode cX5_gap 139 = .ok (.iload_n 3, 1) := by decide +kernel
theorem dX5_gap_140 : decode cX5_gap 140 = .ok (.invokevirtual 144, 3) := by decide +kernel
theorem dX5_gap_143 : decode cX5_gap 143 = .ok (.aload_n 0, 1) := by decide +kernel
theorem dX5_gap_144 : decode cX5_gap 144 = .ok (.getfield 119, 3) := by decide +kernel
theorem dX5_gap_147 : decode cX5_gap 147 = .ok (.ifCond .eq 24, 3) := by decide +kernel
theorem dX5_gap_150 : decode cX5_gap 150 = .ok (.aload_n 0, 1) := by decide +kernel
theorem dX5_gap_151 : decode cX5_gap 151 = .ok (.getfield 69, 3) := by decide +kernel
theorem dX5_gap_154 : decode cX5_gap 154 = .ok (.bipush 13, 2) := by decide +kernel
theorem dX5_gap_156 : decode cX5_gap 156 = .ok (.iload 5, 2) := by decide +kernel
theorem dX5_gap_158 : decode cX5_gap 158 = .ok (.imul, 1) := by decide +kernel
theorem dX5_gap_159 : decode cX5_gap 159 = .ok (.bipush 12, 2) := by decide +kernel
theorem dX5_gap_161 : decode cX5_gap 161 = .ok (.iadd, 1) := by decide +kernel
theorem dX5_gap_162 : decode cX5_gap 162 = .ok (.iaload, 1) := by decide +kernel
theorem dX5_gap_163 : decode cX5_gap 163 = .ok (.iconst 1, 1) := by decide +kernel
theorem dX5_gap_164 : decode cX5_gap 164 = .ok (.if_icmp .ne 7, 3) := by decide +kernel
theorem dX5_gap_167 : decode cX5_gap 167 = .ok (.iconst 1, 1) := by decide +kernel
theorem dX5_gap_168 : decode cX5_gap 168 = .ok (.goto 4, 3) := by decide +kernel
theorem dX5_gap_171 : decode cX5_gap 171 = .ok (.iconst 0, 1) := by decide +kernel
theorem dX5_gap_172 : decode cX5_gap 172 = .ok (.istore 6, 2) := by decide +kernel
theorem dX5_gap_174 : decode cX5_gap 174 = .ok (.iconst 0, 1) := by decide +kernel
theorem dX5_gap_175 : decode cX5_gap 175 = .ok (.istore 7, 2) := by decide +kernel
theorem dX5_gap_177 : decode cX5_gap 177 = .ok (.iload 7, 2) := by decide +kernel
theorem dX5_gap_179 : decode cX5_gap 179 = .ok (.bipush 13, 2) := by decide +kernel
theorem dX5_gap_181 : decode cX5_gap 181 = .ok (.if_icmp .ge 48, 3) := by decide +kernel
theorem dX5_gap_184 : decode cX5_gap 184 = .ok (.iload 4, 2) := by decide +kernel
theorem dX5_gap_186 : decode cX5_gap 186 = .ok (.ifCond .eq 34, 3) := by decide +kernel
theorem dX5_gap_189 : decode cX5_gap 189 = .ok (.iload 6, 2) := by decide +kernel
theorem dX5_gap_191 : decode cX5_gap 191 = .ok (.ifCond .ne 25, 3) := by decide +kernel
theorem dX5_gap_194 : decode cX5_gap 194 = .ok (.aload_n 0, 1) := by decide +kernel
theorem dX5_gap_195 : decode cX5_gap 195 = .ok (.iload 7, 2) := by decide +kernel
theorem dX5_gap_197 : decode cX5_gap 197 = .ok (.invokevirtual 148, 3) := by decide +kernel
theorem dX5_gap_200 : decode cX5_gap 200 = .ok (.aload_n 0, 1) := by decide +kernel
theorem dX5_gap_201 : decode cX5_gap 201 = .ok (.getfield 69, 3) := by decide +kernel
theorem dX5_gap_204 : decode cX5_gap 204 = .ok (.bipush 13, 2) := by decide +kernel
theorem dX5_gap_206 : decode cX5_gap 206 = .ok (.iload 5, 2) := by decide +kernel
theorem dX5_gap_208 : decode cX5_gap 208 = .ok (.imul, 1) := by decide +kernel
theorem dX5_gap_209 : decode cX5_gap 209 = .ok (.iload 7, 2) := by decide +kernel
theorem dX5_gap_211 : decode cX5_gap 211 = .ok (.iadd, 1) := by decide +kernel
theorem dX5_gap_212 : decode cX5_gap 212 = .ok (.iaload, 1) := by decide +kernel
theorem dX5_gap_213 : decode cX5_gap 213 = .ok (.if_icmp .ne 7, 3) := by decide +kernel
theorem dX5_gap_216 : decode cX5_gap 216 = .ok (.iconst 1, 1) := by decide +kernel
theorem dX5_gap_217 : decode cX5_gap 217 = .ok (.goto 4, 3) := by decide +kernel
theorem dX5_gap_220 : decode cX5_gap 220 = .ok (.iconst 0, 1) := by decide +kernel
theorem dX5_gap_221 : decode cX5_gap 221 = .ok (.istore 4, 2) := by decide +kernel
theorem dX5_gap_223 : decode cX5_gap 223 = .ok (.iinc 7 1, 3) := by decide +kernel
theorem dX5_gap_226 : decode cX5_gap 226 = .ok (.goto (-49), 3) := by decide +kernel
theorem dX5_gap_229 : decode cX5_gap 229 = .ok (.iinc 5 1, 3) := by decide +kernel
theorem dX5_gap_232 : decode cX5_gap 232 = .ok (.goto (-106), 3) := by decide +kernel
theorem dX5_gap_235 : decode cX5_gap 235 = .ok (.iload 4, 2) := by decide +kernel
theorem dX5_gap_237 : decode cX5_gap 237 = .ok (.ifCond .eq 23, 3) := by decide +kernel
theorem dX5_gap_240 : decode cX5_gap 240 = .ok (.aload_n 0, 1) := by decide +kernel
theorem dX5_gap_241 : decode cX5_gap 241 = .ok (.getfield 66, 3) := by decide +kernel
theorem dX5_gap_244 : decode cX5_gap 244 = .ok (.aload_n 0, 1) := by decide +kernel
theorem dX5_gap_245 : decode cX5_gap 245 = .ok (.getfield 161, 3) := by decide +kernel
theorem dX5_gap_248 : decode cX5_gap 248 = .ok (.iload_n 3, 1) := by decide +kernel
theorem dX5_gap_249 : decode cX5_gap 249 = .ok (.iastore, 1) := by decide +kernel
theorem dX5_gap_250 : decode cX5_gap 250 = .ok (.aload_n 0, 1) := by decide +kernel
theorem dX5_gap_251 : decode cX5_gap 251 = .ok (.dup, 1) := by decide +kernel
theorem dX5_gap_252 : decode cX5_gap 252 = .ok (.getfield 161, 3) := by decide +kernel
theorem dX5_gap_255 : decode cX5_gap 255 = .ok (.iconst 1, 1) := by decide +kernel
theorem dX5_gap_256 : decode cX5_gap 256 = .ok (.iadd, 1) := by decide +kernel
theorem dX5_gap_257 : decode cX5_gap 257 = .ok (.putfield 161, 3) := by decide +kernel
theorem dX5_gap_260 : decode cX5_gap 260 = .ok (.iinc 3 1, 3) := by decide +kernel
theorem dX5_gap_263 : decode cX5_gap 263 = .ok (.goto (-149), 3) := by decide +kernel
theorem dX5_gap_266 : decode cX5_gap 266 = .ok (.aload_n 0, 1) := by decide +kernel
theorem dX5_gap_267 : decode cX5_gap 267 = .ok (.getfield 161, 3) := by decide +kernel
theorem dX5_gap_270 : decode cX5_gap 270 = .ok (.ireturn, 1) := by decide +kernel
theorem dX5_filling_0 : decode cX5_filling 0 = .ok (.iload_n 1, 1) := by decide +kernel
theorem dX5_filling_1 : decode cX5_filling 1 = .ok (.ifCond .lt 20, 3) := by decide +kernel
theorem dX5_filling_4 : decode cX5_filling 4 = .ok (.iload_n 1, 1) := by decide +kernel
theorem dX5_filling_5 : decode cX5_filling 5 = .ok (.aload_n 0, 1) := by decide +kernel
theorem dX5_filling_6 : decode cX5_filling 6 = .ok (.getfield 161, 3) := by decide +kernel
theorem dX5_filling_9 : decode cX5_filling 9 = .ok (.if_icmp .ge 12, 3) := by decide +kernel
theorem dX5_filling_12 : decode cX5_filling 12 = .ok (.aload_n 0, 1) := by decide +kernel
theorem dX5_filling_13 : decode cX5_filling 13 = .ok (.getfield 66, 3) := by decide +kernel
theorem dX5_filling_16 : decode cX5_filling 16 = .ok (.iload_n 1, 1) := by decide +kernel
theorem dX5_filling_17 : decode cX5_filling 17 = .ok (.iaload, 1) := by decide +kernel
theorem dX5_filling_18 : decode cX5_filling 18 = .ok (.goto 5, 3) := by decide +kernel
theorem dX5_filling_21 : decode cX5_filling 21 = .ok (.ldc 112, 2) := by decide +kernel
theorem dX5_filling_23 : decode cX5_filling 23 = .ok (.ireturn, 1) := by decide +kernel
theorem dX5_why_0 : decode cX5_why 0 = .ok (.aload_n 0, 1) := by decide +kernel
theorem dX5_why_1 : decode cX5_why 1 = .ok (.iload_n 1, 1) := by decide +kernel
theorem dX5_why_2 : decode cX5_why 2 = .ok (.invokevirtual 152, 3) := by decide +kernel
theorem dX5_why_5 : decode cX5_why 5 = .ok (.ifCond .eq 12, 3) := by decide +kernel
theorem dX5_why_8 : decode cX5_why 8 = .ok (.aload_n 0, 1) := by decide +kernel
theorem dX5_why_9 : decode cX5_why 9 = .ok (.getfield 54, 3) := by decide +kernel
theorem dX5_why_12 : decode cX5_why 12 = .ok (.iload_n 1, 1) := by decide +kernel
theorem dX5_why_13 : decode cX5_why 13 = .ok (.iaload, 1) := by decide +kernel
theorem dX5_why_14 : decode cX5_why 14 = .ok (.ifCond .eq 5, 3) := by decide +kernel
theorem dX5_why_17 : decode cX5_why 17 = .ok (.iconst (-1), 1) := by decide +kernel
theorem dX5_why_18 : decode cX5_why 18 = .ok (.ireturn, 1) := by decide +kernel
theorem dX5_why_19 : decode cX5_why 19 = .ok (.iconst 0, 1) := by decide +kernel
theorem dX5_why_20 : decode cX5_why 20 = .ok (.istore_n 3, 1) := by decide +kernel
theorem dX5_why_21 : decode cX5_why 21 = .ok (.iconst 0, 1) := by decide +kernel
theorem dX5_why_22 : decode cX5_why 22 = .ok (.istore 4, 2) := by decide +kernel
theorem dX5_why_24 : decode cX5_why 24 = .ok (.iload 4, 2) := by decide +kernel
theorem dX5_why_26 : decode cX5_why 26 = .ok (.bipush 10, 2) := by decide +kernel
theorem dX5_why_28 : decode cX5_why 28 = .ok (.if_icmp .ge 57, 3) := by decide +kernel
theorem dX5_why_31 : decode cX5_why 31 = .ok (.aload_n 0, 1) := by decide +kernel
theorem dX5_why_32 : decode cX5_why 32 = .ok (.aload_n 0, 1) := by decide +kernel
theorem dX5_why_33 : decode cX5_why 33 = .ok (.getfield 48, 3) := by decide +kernel
theorem dX5_why_36 : decode cX5_why 36 = .ok (.iload_n 1, 1) := by decide +kernel
theorem dX5_why_37 : decode cX5_why 37 = .ok (.iaload, 1) := by decide +kernel
theorem dX5_why_38 : decode cX5_why 38 = .ok (.iload 4, 2) := by decide +kernel
theorem dX5_why_40 : decode cX5_why 40 = .ok (.iconst 0, 1) := by decide +kernel
theorem dX5_why_41 : decode cX5_why 41 = .ok (.iconst (-1), 1) := by decide +kernel
theorem dX5_why_42 : decode cX5_why 42 = .ok (.iconst 0, 1) := by decide +kernel
theorem dX5_why_43 : decode cX5_why 43 = .ok (.invokevirtual 144, 3) := by decide +kernel
theorem dX5_why_46 : decode cX5_why 46 = .ok (.iload_n 3, 1) := by decide +kernel
theorem dX5_why_47 : decode cX5_why 47 = .ok (.aload_n 0, 1) := by decide +kernel
theorem dX5_why_48 : decode cX5_why 48 = .ok (.getfield 119, 3) := by decide +kernel
theorem dX5_why_51 : decode cX5_why 51 = .ok (.ifCond .ne 25, 3) := by decide +kernel
theorem dX5_why_54 : decode cX5_why 54 = .ok (.aload_n 0, 1) := by decide +kernel
theorem dX5_why_55 : decode cX5_why 55 = .ok (.getfield 22, 3) := by decide +kernel
theorem dX5_why_58 : decode cX5_why 58 = .ok (.aload_n 0, 1) := by decide +kernel
theorem dX5_why_59 : decode cX5_why 59 = .ok (.getfield 57, 3) := by decide +kernel
theorem dX5_why_62 : decode cX5_why 62 = .ok (.iload_n 1, 1) := by decide +kernel
theorem dX5_why_63 : decode cX5_why 63 = .ok (.iaload, 1) := by decide +kernel
theorem dX5_why_64 : decode cX5_why 64 = .ok (.iaload, 1) := by decide +kernel
theorem dX5_why_65 : decode cX5_why 65 = .ok (.iload_n 2, 1) := by decide +kernel
theorem dX5_why_66 : decode cX5_why 66 = .ok (.if_icmp .ne 10, 3) := by decide +kernel
theorem dX5_why_69 : decode cX5_why 69 = .ok (.iconst 1, 1) := by decide +kernel
theorem dX5_why_70 : decode cX5_why 70 = .ok (.iload 4, 2) := by decide +kernel
theorem dX5_why_72 : decode cX5_why 72 = .ok (.ishl, 1) := by decide +kernel
theorem dX5_why_73 : decode cX5_why 73 = .ok (.goto 4, 3) := by decide +kernel
theorem dX5_why_76 : decode cX5_why 76 = .ok (.iconst 0, 1) := by decide +kernel
theorem dX5_why_77 : decode cX5_why 77 = .ok (.ior, 1) := by decide +kernel
theorem dX5_why_78 : decode cX5_why 78 = .ok (.istore_n 3, 1) := by decide +kernel
theorem dX5_why_79 : decode cX5_why 79 = .ok (.iinc 4 1, 3) := by decide +kernel
theorem dX5_why_82 : decode cX5_why 82 = .ok (.goto (-58), 3) := by decide +kernel
theorem dX5_why_85 : decode cX5_why 85 = .ok (.iload_n 3, 1) := by decide +kernel
theorem dX5_why_86 : decode cX5_why 86 = .ok (.ireturn, 1) := by decide +kernel
theorem dX5_same_0 : decode cX5_same 0 = .ok (.aload_n 0, 1) := by decide +kernel
theorem dX5_same_1 : decode cX5_same 1 = .ok (.iload_n 1, 1) := by decide +kernel
theorem dX5_same_2 : decode cX5_same 2 = .ok (.invokevirtual 101, 3) := by decide +kernel
theorem dX5_same_5 : decode cX5_same 5 = .ok (.ifCond .eq 11, 3) := by decide +kernel
theorem dX5_same_8 : decode cX5_same 8 = .ok (.aload_n 0, 1) := by decide +kernel
theorem dX5_same_9 : decode cX5_same 9 = .ok (.iload_n 2, 1) := by decide +kernel
theorem dX5_same_10 : decode cX5_same 10 = .ok (.invokevirtual 101, 3) := by decide +kernel
theorem dX5_same_13 : decode cX5_same 13 = .ok (.ifCond .ne 5, 3) := by decide +kernel
theorem dX5_same_16 : decode cX5_same 16 = .ok (.iconst (-1), 1) := by decide +kernel
theorem dX5_same_17 : decode cX5_same 17 = .ok (.ireturn, 1) := by decide +kernel
theorem dX5_same_18 : decode cX5_same 18 = .ok (.aload_n 0, 1) := by decide +kernel
theorem dX5_same_19 : decode cX5_same 19 = .ok (.iload_n 1, 1) := by decide +kernel
theorem dX5_same_20 : decode cX5_same 20 = .ok (.invokevirtual 113, 3) := by decide +kernel
theorem dX5_same_23 : decode cX5_same 23 = .ok (.ifCond .eq 11, 3) := by decide +kernel
theorem dX5_same_26 : decode cX5_same 26 = .ok (.aload_n 0, 1) := by decide +kernel
theorem dX5_same_27 : decode cX5_same 27 = .ok (.iload_n 2, 1) := by decide +kernel
theorem dX5_same_28 : decode cX5_same 28 = .ok (.invokevirtual 113, 3) := by decide +kernel
theorem dX5_same_31 : decode cX5_same 31 = .ok (.ifCond .ne 6, 3) := by decide +kernel
theorem dX5_same_34 : decode cX5_same 34 = .ok (.bipush (-3), 2) := by decide +kernel
theorem dX5_same_36 : decode cX5_same 36 = .ok (.ireturn, 1) := by decide +kernel
theorem dX5_same_37 : decode cX5_same 37 = .ok (.iconst 0, 1) := by decide +kernel
theorem dX5_same_38 : decode cX5_same 38 = .ok (.istore_n 3, 1) := by decide +kernel
theorem dX5_same_39 : decode cX5_same 39 = .ok (.iload_n 3, 1) := by decide +kernel
theorem dX5_same_40 : decode cX5_same 40 = .ok (.bipush 10, 2) := by decide +kernel
theorem dX5_same_42 : decode cX5_same 42 = .ok (.if_icmp .ge 144, 3) := by decide +kernel
theorem dX5_same_45 : decode cX5_same 45 = .ok (.aload_n 0, 1) := by decide +kernel
theorem dX5_same_46 : decode cX5_same 46 = .ok (.iload_n 1, 1) := by decide +kernel
theorem dX5_same_47 : decode cX5_same 47 = .ok (.iload_n 3, 1) := by decide +kernel
theorem dX5_same_48 : decode cX5_same 48 = .ok (.iconst 0, 1) := by decide +kernel
theorem dX5_same_49 : decode cX5_same 49 = .ok (.iconst (-1), 1) := by decide +kernel
theorem dX5_same_50 : decode cX5_same 50 = .ok (.iconst 0, 1) := by decide +kernel
theorem dX5_same_51 : decode cX5_same 51 = .ok (.invokevirtual 144, 3) := by decide +kernel
theorem dX5_same_54 : decode cX5_same 54 = .ok (.iconst 0, 1) := by decide +kernel
theorem dX5_same_55 : decode cX5_same 55 = .ok (.istore 4, 2) := by decide +kernel
theorem dX5_same_57 : decode cX5_same 57 = .ok (.iload 4, 2) := by decide +kernel
theorem dX5_same_59 : decode cX5_same 59 = .ok (.bipush 13, 2) := by decide +kernel
theorem dX5_same_61 : decode cX5_same 61 = .ok (.if_icmp .ge 22, 3) := by decide +kernel
theorem dX5_same_64 : decode cX5_same 64 = .ok (.aload_n 0, 1) := by decide +kernel
theorem dX5_same_65 : decode cX5_same 65 = .ok (.getfield 69, 3) := by decide +kernel
theorem dX5_same_68 : decode cX5_same 68 = .ok (.iload 4, 2) := by decide +kernel
theorem dX5_same_70 : decode cX5_same 70 = .ok (.aload_n 0, 1) := by decide +kernel
theorem dX5_same_71 : decode cX5_same 71 = .ok (.iload 4, 2) := by decide +kernel
theorem dX5_same_73 : decode cX5_same 73 = .ok (.invokevirtual 148, 3) := by decide +kernel
theorem dX5_same_76 : decode cX5_same 76 = .ok (.iastore, 1) := by decide +kernel
theorem dX5_same_77 : decode cX5_same 77 = .ok (.iinc 4 1, 3) := by decide +kernel
theorem dX5_same_80 : decode cX5_same 80 = .ok (.goto (-23), 3) := by decide +kernel
theorem dX5_same_83 : decode cX5_same 83 = .ok (.aload_n 0, 1) := by decide +kernel
theorem dX5_same_84 : decode cX5_same 84 = .ok (.iload_n 2, 1) := by decide +kernel
theorem dX5_same_85 : decode cX5_same 85 = .ok (.iload_n 3, 1) := by decide +kernel
theorem dX5_same_86 : decode cX5_same 86 = .ok (.iconst 0, 1) := by decide +kernel
theorem dX5_same_87 : decode cX5_same 87 = .ok (.iconst (-1), 1) := by decide +kernel
theorem dX5_same_88 : decode cX5_same 88 = .ok (.iconst 0, 1) := by decide +kernel
theorem dX5_same_89 : decode cX5_same 89 = .ok (.invokevirtual 144, 3) := by decide +kernel
theorem dX5_same_92 : decode cX5_same 92 = .ok (.aload_n 0, 1) := by decide +kernel
theorem dX5_same_93 : decode cX5_same 93 = .ok (.getfield 119, 3) := by decide +kernel
theorem dX5_same_96 : decode cX5_same 96 = .ok (.aload_n 0, 1) := by decide +kernel
theorem dX5_same_97 : decode cX5_same 97 = .ok (.getfield 69, 3) := by decide +kernel
theorem dX5_same_100 : decode cX5_same 100 = .ok (.bipush 12, 2) := by decide +kernel
theorem dX5_same_102 : decode cX5_same 102 = .ok (.iaload, 1) := by decide +kernel
theorem dX5_same_103 : decode cX5_same 103 = .ok (.iconst 1, 1) := by decide +kernel
theorem dX5_same_104 : decode cX5_same 104 = .ok (.if_icmp .ne 7, 3) := by decide +kernel
theorem dX5_same_107 : decode cX5_same 107 = .ok (.iconst 1, 1) := by decide +kernel
theorem dX5_same_108 : decode cX5_same 108 = .ok (.goto 4, 3) := by decide +kernel
theorem dX5_same_111 : decode cX5_same 111 = .ok (.iconst 0, 1) := by decide +kernel
theorem dX5_same_112 : decode cX5_same 112 = .ok (.if_icmp .ne 7, 3) := by decide +kernel
theorem dX5_same_115 : decode cX5_same 115 = .ok (.iconst 1, 1) := by decide +kernel
theorem dX5_same_116 : decode cX5_same 116 = .ok (.goto 4, 3) := by decide +kernel
theorem dX5_same_119 : decode cX5_same 119 = .ok (.iconst 0, 1) := by decide +kernel
theorem dX5_same_120 : decode cX5_same 120 = .ok (.istore 4, 2) := by decide +kernel
theorem dX5_same_122 : decode cX5_same 122 = .ok (.iconst 0, 1) := by decide +kernel
theorem dX5_same_123 : decode cX5_same 123 = .ok (.istore 5, 2) := by decide +kernel
theorem dX5_same_125 : decode cX5_same 125 = .ok (.iload 5, 2) := by decide +kernel
theorem dX5_same_127 : decode cX5_same 127 = .ok (.iconst 4, 1) := by decide +kernel
theorem dX5_same_128 : decode cX5_same 128 = .ok (.if_icmp .ge 45, 3) := by decide +kernel
theorem dX5_same_131 : decode cX5_same 131 = .ok (.iload 4, 2) := by decide +kernel
theorem dX5_same_133 : decode cX5_same 133 = .ok (.ifCond .eq 31, 3) := by decide +kernel
theorem dX5_same_136 : decode cX5_same 136 = .ok (.aload_n 0, 1) := by decide +kernel
theorem dX5_same_137 : decode cX5_same 137 = .ok (.getfield 119, 3) := by decide +kernel
theorem dX5_same_140 : decode cX5_same 140 = .ok (.ifCond .ne 20, 3) := by decide +kernel
theorem dX5_same_143 : decode cX5_same 143 = .ok (.aload_n 0, 1) := by decide +kernel
theorem dX5_same_144 : decode cX5_same 144 = .ok (.getfield 22, 3) := by decide +kernel
theorem dX5_same_147 : decode cX5_same 147 = .ok (.iload 5, 2) := by decide +kernel
theorem dX5_same_149 : decode cX5_same 149 = .ok (.iaload, 1) := by decide +kernel
theorem dX5_same_150 : decode cX5_same 150 = .ok (.aload_n 0, 1) := by decide +kernel
theorem dX5_same_151 : decode cX5_same 151 = .ok (.getfield 69, 3) := by decide +kernel
theorem dX5_same_154 : decode cX5_same 154 = .ok (.iload 5, 2) := by decide +kernel
theorem dX5_same_156 : decode cX5_same 156 = .ok (.iaload, 1) := by decide +kernel
theorem dX5_same_157 : decode cX5_same 157 = .ok (.if_icmp .ne 7, 3) := by decide +kernel
theorem dX5_same_160 : decode cX5_same 160 = .ok (.iconst 1, 1) := by decide +kernel
theorem dX5_same_161 : decode cX5_same 161 = .ok (.goto 4, 3) := by decide +kernel
theorem dX5_same_164 : decode cX5_same 164 = .ok (.iconst 0, 1) := by decide +kernel
theorem dX5_same_165 : decode cX5_same 165 = .ok (.istore 4, 2) := by decide +kernel
theorem dX5_same_167 : decode cX5_same 167 = .ok (.iinc 5 1, 3) := by decide +kernel
theorem dX5_same_170 : decode cX5_same 170 = .ok (.goto (-45), 3) := by decide +kernel
theorem dX5_same_173 : decode cX5_same 173 = .ok (.iload 4, 2) := by decide +kernel
theorem dX5_same_175 : decode cX5_same 175 = .ok (.ifCond .ne 5, 3) := by decide +kernel
theorem dX5_same_178 : decode cX5_same 178 = .ok (.iload_n 3, 1) := by decide +kernel
theorem dX5_same_179 : decode cX5_same 179 = .ok (.ireturn, 1) := by decide +kernel
theorem dX5_same_180 : decode cX5_same 180 = .ok (.iinc 3 1, 3) := by decide +kernel
theorem dX5_same_183 : decode cX5_same 183 = .ok (.goto (-144), 3) := by decide +kernel
theorem dX5_same_186 : decode cX5_same 186 = .ok (.bipush 10, 2) := by decide +kernel
theorem dX5_same_188 : decode cX5_same 188 = .ok (.ireturn, 1) := by decide +kernel
theorem dX5_isPupil_0 : decode cX5_isPupil 0 = .ok (.iload_n 0, 1) := by decide +kernel
theorem dX5_isPupil_1 : decode cX5_isPupil 1 = .ok (.ifCond .lt 13, 3) := by decide +kernel
theorem dX5_isPupil_4 : decode cX5_isPupil 4 = .ok (.iload_n 0, 1) := by decide +kernel
theorem dX5_isPupil_5 : decode cX5_isPupil 5 = .ok (.bipush 10, 2) := by decide +kernel
theorem dX5_isPupil_7 : decode cX5_isPupil 7 = .ok (.if_icmp .ge 7, 3) := by decide +kernel
theorem dX5_isPupil_10 : decode cX5_isPupil 10 = .ok (.iconst 1, 1) := by decide +kernel
theorem dX5_isPupil_11 : decode cX5_isPupil 11 = .ok (.goto 4, 3) := by decide +kernel
theorem dX5_isPupil_14 : decode cX5_isPupil 14 = .ok (.iconst 0, 1) := by decide +kernel
theorem dX5_isPupil_15 : decode cX5_isPupil 15 = .ok (.ireturn, 1) := by decide +kernel
theorem dX5_give_0 : decode cX5_give 0 = .ok (.iload_n 1, 1) := by decide +kernel
theorem dX5_give_1 : decode cX5_give 1 = .ok (.invokestatic 164, 3) := by decide +kernel
theorem dX5_give_4 : decode cX5_give 4 = .ok (.ifCond .eq 11, 3) := by decide +kernel
theorem dX5_give_7 : decode cX5_give 7 = .ok (.aload_n 0, 1) := by decide +kernel
theorem dX5_give_8 : decode cX5_give 8 = .ok (.iload_n 2, 1) := by decide +kernel
theorem dX5_give_9 : decode cX5_give 9 = .ok (.invokevirtual 152, 3) := by decide +kernel
theorem dX5_give_12 : decode cX5_give 12 = .ok (.ifCond .ne 5, 3) := by decide +kernel
theorem dX5_give_15 : decode cX5_give 15 = .ok (.iconst (-1), 1) := by decide +kernel
theorem dX5_give_16 : decode cX5_give 16 = .ok (.ireturn, 1) := by decide +kernel
theorem dX5_give_17 : decode cX5_give 17 = .ok (.aload_n 0, 1) := by decide +kernel
theorem dX5_give_18 : decode cX5_give 18 = .ok (.getfield 72, 3) := by decide +kernel
theorem dX5_give_21 : decode cX5_give 21 = .ok (.bipush 60, 2) := by decide +kernel
theorem dX5_give_23 : decode cX5_give 23 = .ok (.iload_n 1, 1) := by decide +kernel
theorem dX5_give_24 : decode cX5_give 24 = .ok (.imul, 1) := by decide +kernel
theorem dX5_give_25 : decode cX5_give 25 = .ok (.iload_n 2, 1) := by decide +kernel
theorem dX5_give_26 : decode cX5_give 26 = .ok (.iadd, 1) := by decide +kernel
theorem dX5_give_27 : decode cX5_give 27 = .ok (.iconst 1, 1) := by decide +kernel
theorem dX5_give_28 : decode cX5_give 28 = .ok (.bastore, 1) := by decide +kernel
theorem dX5_give_29 : decode cX5_give 29 = .ok (.aload_n 0, 1) := by decide +kernel
theorem dX5_give_30 : decode cX5_give 30 = .ok (.getfield 76, 3) := by decide +kernel
theorem dX5_give_33 : decode cX5_give 33 = .ok (.bipush 60, 2) := by decide +kernel
theorem dX5_give_35 : decode cX5_give 35 = .ok (.iload_n 1, 1) := by decide +kernel
theorem dX5_give_36 : decode cX5_give 36 = .ok (.imul, 1) := by decide +kernel
theorem dX5_give_37 : decode cX5_give 37 = .ok (.iload_n 2, 1) := by decide +kernel
theorem dX5_give_38 : decode cX5_give 38 = .ok (.iadd, 1) := by decide +kernel
theorem dX5_give_39 : decode cX5_give 39 = .ok (.iload_n 3, 1) := by decide +kernel
theorem dX5_give_40 : decode cX5_give 40 = .ok (.iastore, 1) := by decide +kernel
theorem dX5_give_41 : decode cX5_give 41 = .ok (.iconst 0, 1) := by decide +kernel
theorem dX5_give_42 : decode cX5_give 42 = .ok (.istore 4, 2) := by decide +kernel
theorem dX5_give_44 : decode cX5_give 44 = .ok (.iconst 0, 1) := by decide +kernel
theorem dX5_give_45 : decode cX5_give 45 = .ok (.istore 5, 2) := by decide +kernel
theorem dX5_give_47 : decode cX5_give 47 = .ok (.iload 5, 2) := by decide +kernel
theorem dX5_give_49 : decode cX5_give 49 = .ok (.aload_n 0, 1) := by decide +kernel
theorem dX5_give_50 : decode cX5_give 50 = .ok (.getfield 94, 3) := by decide +kernel
theorem dX5_give_53 : decode cX5_give 53 = .ok (.if_icmp .ge 34, 3) := by decide +kernel
theorem dX5_give_56 : decode cX5_give 56 = .ok (.iload 4, 2) := by decide +kernel
theorem dX5_give_58 : decode cX5_give 58 = .ok (.aload_n 0, 1) := by decide +kernel
theorem dX5_give_59 : decode cX5_give 59 = .ok (.getfield 72, 3) := by decide +kernel
theorem dX5_give_62 : decode cX5_give 62 = .ok (.bipush 60, 2) := by decide +kernel
theorem dX5_give_64 : decode cX5_give 64 = .ok (.iload_n 1, 1) := by decide +kernel
theorem dX5_give_65 : decode cX5_give 65 = .ok (.imul, 1) := by decide +kernel
theorem dX5_give_66 : decode cX5_give 66 = .ok (.iload 5, 2) := by decide +kernel
theorem dX5_give_68 : decode cX5_give 68 = .ok (.iadd, 1) := by decide +kernel
theorem dX5_give_69 : decode cX5_give 69 = .ok (.baload, 1) := by decide +kernel
theorem dX5_give_70 : decode cX5_give 70 = .ok (.ifCond .eq 7, 3) := by decide +kernel
theorem dX5_give_73 : decode cX5_give 73 = .ok (.iconst 1, 1) := by decide +kernel
theorem dX5_give_74 : decode cX5_give 74 = .ok (.goto 4, 3) := by decide +kernel
theorem dX5_give_77 : decode cX5_give 77 = .ok (.iconst 0, 1) := by decide +kernel
theorem dX5_give_78 : decode cX5_give 78 = .ok (.iadd, 1) := by decide +kernel
theorem dX5_give_79 : decode cX5_give 79 = .ok (.istore 4, 2) := by decide +kernel
theorem dX5_give_81 : decode cX5_give 81 = .ok (.iinc 5 1, 3) := by decide +kernel
theorem dX5_give_84 : decode cX5_give 84 = .ok (.goto (-37), 3) := by decide +kernel
theorem dX5_give_87 : decode cX5_give 87 = .ok (.iload 4, 2) := by decide +kernel
theorem dX5_give_89 : decode cX5_give 89 = .ok (.ireturn, 1) := by decide +kernel
theorem dX5_price_0 : decode cX5_price 0 = .ok (.iload_n 1, 1) := by decide +kernel
theorem dX5_price_1 : decode cX5_price 1 = .ok (.iconst 0, 1) := by decide +kernel
theorem dX5_price_2 : decode cX5_price 2 = .ok (.bipush 6, 2) := by decide +kernel
theorem dX5_price_4 : decode cX5_price 4 = .ok (.invokestatic 97, 3) := by decide +kernel
theorem dX5_price_7 : decode cX5_price 7 = .ok (.ifCond .eq 13, 3) := by decide +kernel
theorem dX5_price_10 : decode cX5_price 10 = .ok (.iload_n 2, 1) := by decide +kernel
theorem dX5_price_11 : decode cX5_price 11 = .ok (.iconst 1, 1) := by decide +kernel
theorem dX5_price_12 : decode cX5_price 12 = .ok (.bipush 99, 2) := by decide +kernel
theorem dX5_price_14 : decode cX5_price 14 = .ok (.invokestatic 97, 3) := by decide +kernel
theorem dX5_price_17 : decode cX5_price 17 = .ok (.ifCond .ne 5, 3) := by decide +kernel
theorem dX5_price_20 : decode cX5_price 20 = .ok (.iconst (-1), 1) := by decide +kernel
theorem dX5_price_21 : decode cX5_price 21 = .ok (.ireturn, 1) := by decide +kernel
theorem dX5_price_22 : decode cX5_price 22 = .ok (.aload_n 0, 1) := by decide +kernel
theorem dX5_price_23 : decode cX5_price 23 = .ok (.getfield 79, 3) := by decide +kernel
theorem dX5_price_26 : decode cX5_price 26 = .ok (.iload_n 1, 1) := by decide +kernel
theorem dX5_price_27 : decode cX5_price 27 = .ok (.iaload, 1) := by decide +kernel
theorem dX5_price_28 : decode cX5_price 28 = .ok (.istore_n 3, 1) := by decide +kernel
theorem dX5_price_29 : decode cX5_price 29 = .ok (.aload_n 0, 1) := by decide +kernel
theorem dX5_price_30 : decode cX5_price 30 = .ok (.getfield 79, 3) := by decide +kernel
theorem dX5_price_33 : decode cX5_price 33 = .ok (.iload_n 1, 1) := by decide +kernel
theorem dX5_price_34 : decode cX5_price 34 = .ok (.iload_n 2, 1) := by decide +kernel
theorem dX5_price_35 : decode cX5_price 35 = .ok (.iastore, 1) := by decide +kernel
theorem dX5_price_36 : decode cX5_price 36 = .ok (.iload_n 3, 1) := by decide +kernel
theorem dX5_price_37 : decode cX5_price 37 = .ok (.ireturn, 1) := by decide +kernel
theorem dX5_bits_0 : decode cX5_bits 0 = .ok (.iconst 0, 1) := by decide +kernel
theorem dX5_bits_1 : decode cX5_bits 1 = .ok (.istore_n 1, 1) := by decide +kernel
theorem dX5_bits_2 : decode cX5_bits 2 = .ok (.iconst 0, 1) := by decide +kernel
theorem dX5_bits_3 : decode cX5_bits 3 = .ok (.istore_n 2, 1) := by decide +kernel
theorem dX5_bits_4 : decode cX5_bits 4 = .ok (.iload_n 2, 1) := by decide +kernel
theorem dX5_bits_5 : decode cX5_bits 5 = .ok (.bipush 6, 2) := by decide +kernel
theorem dX5_bits_7 : decode cX5_bits 7 = .ok (.if_icmp .ge 17, 3) := by decide +kernel
theorem dX5_bits_10 : decode cX5_bits 10 = .ok (.iload_n 1, 1) := by decide +kernel
theorem dX5_bits_11 : decode cX5_bits 11 = .ok (.iload_n 0, 1) := by decide +kernel
theorem dX5_bits_12 : decode cX5_bits 12 = .ok (.iload_n 2, 1) := by decide +kernel
theorem dX5_bits_13 : decode cX5_bits 13 = .ok (.ishr, 1) := by decide +kernel
theorem dX5_bits_14 : decode cX5_bits 14 = .ok (.iconst 1, 1) := by decide +kernel
theorem dX5_bits_15 : decode cX5_bits 15 = .ok (.iand, 1) := by decide +kernel
theorem dX5_bits_16 : decode cX5_bits 16 = .ok (.iadd, 1) := by decide +kernel
theorem dX5_bits_17 : decode cX5_bits 17 = .ok (.istore_n 1, 1) := by decide +kernel
theorem dX5_bits_18 : decode cX5_bits 18 = .ok (.iinc 2 1, 3) := by decide +kernel
theorem dX5_bits_21 : decode cX5_bits 21 = .ok (.goto (-17), 3) := by decide +kernel
theorem dX5_bits_24 : decode cX5_bits 24 = .ok (.iload_n 1, 1) := by decide +kernel
theorem dX5_bits_25 : decode cX5_bits 25 = .ok (.ireturn, 1) := by decide +kernel
theorem dX5_costOf_0 : decode cX5_costOf 0 = .ok (.iconst 0, 1) := by decide +kernel
theorem dX5_costOf_1 : decode cX5_costOf 1 = .ok (.istore_n 3, 1) := by decide +kernel
theorem dX5_costOf_2 : decode cX5_costOf 2 = .ok (.iconst 0, 1) := by decide +kernel
theorem dX5_costOf_3 : decode cX5_costOf 3 = .ok (.istore 4, 2) := by decide +kernel
theorem dX5_costOf_5 : decode cX5_costOf 5 = .ok (.iload 4, 2) := by decide +kernel
theorem dX5_costOf_7 : decode cX5_costOf 7 = .ok (.bipush 6, 2) := by decide +kernel
theorem dX5_costOf_9 : decode cX5_costOf 9 = .ok (.if_icmp .ge 26, 3) := by decide +kernel
theorem dX5_costOf_12 : decode cX5_costOf 12 = .ok (.iload_n 3, 1) := by decide +kernel
theorem dX5_costOf_13 : decode cX5_costOf 13 = .ok (.iload_n 2, 1) := by decide +kernel
theorem dX5_costOf_14 : decode cX5_costOf 14 = .ok (.iload 4, 2) := by decide +kernel
theorem dX5_costOf_16 : decode cX5_costOf 16 = .ok (.ishr, 1) := by decide +kernel
theorem dX5_costOf_17 : decode cX5_costOf 17 = .ok (.iconst 1, 1) := by decide +kernel
theorem dX5_costOf_18 : decode cX5_costOf 18 = .ok (.iand, 1) := by decide +kernel
theorem dX5_costOf_19 : decode cX5_costOf 19 = .ok (.aload_n 0, 1) := by decide +kernel
theorem dX5_costOf_20 : decode cX5_costOf 20 = .ok (.getfield 79, 3) := by decide +kernel
theorem dX5_costOf_23 : decode cX5_costOf 23 = .ok (.iload 4, 2) := by decide +kernel
theorem dX5_costOf_25 : decode cX5_costOf 25 = .ok (.iaload, 1) := by decide +kernel
theorem dX5_costOf_26 : decode cX5_costOf 26 = .ok (.imul, 1) := by decide +kernel
theorem dX5_costOf_27 : decode cX5_costOf 27 = .ok (.iadd, 1) := by decide +kernel
theorem dX5_costOf_28 : decode cX5_costOf 28 = .ok (.istore_n 3, 1) := by decide +kernel
theorem dX5_costOf_29 : decode cX5_costOf 29 = .ok (.iinc 4 1, 3) := by decide +kernel
theorem dX5_costOf_32 : decode cX5_costOf 32 = .ok (.goto (-27), 3) := by decide +kernel
theorem dX5_costOf_35 : decode cX5_costOf 35 = .ok (.iconst 0, 1) := by decide +kernel
theorem dX5_costOf_36 : decode cX5_costOf 36 = .ok (.istore 4, 2) := by decide +kernel
theorem dX5_costOf_38 : decode cX5_costOf 38 = .ok (.iload 4, 2) := by decide +kernel
theorem dX5_costOf_40 : decode cX5_costOf 40 = .ok (.aload_n 0, 1) := by decide +kernel
theorem dX5_costOf_41 : decode cX5_costOf 41 = .ok (.getfield 94, 3) := by decide +kernel
theorem dX5_costOf_44 : decode cX5_costOf 44 = .ok (.if_icmp .ge 59, 3) := by decide +kernel
theorem dX5_costOf_47 : decode cX5_costOf 47 = .ok (.bipush 60, 2) := by decide +kernel
theorem dX5_costOf_49 : decode cX5_costOf 49 = .ok (.iload_n 1, 1) := by decide +kernel
theorem dX5_costOf_50 : decode cX5_costOf 50 = .ok (.imul, 1) := by decide +kernel
theorem dX5_costOf_51 : decode cX5_costOf 51 = .ok (.iload 4, 2) := by decide +kernel
theorem dX5_costOf_53 : decode cX5_costOf 53 = .ok (.iadd, 1) := by decide +kernel
theorem dX5_costOf_54 : decode cX5_costOf 54 = .ok (.istore 5, 2) := by decide +kernel
theorem dX5_costOf_56 : decode cX5_costOf 56 = .ok (.iload_n 3, 1) := by decide +kernel
theorem dX5_costOf_57 : decode cX5_costOf 57 = .ok (.aload_n 0, 1) := by decide +kernel
theorem dX5_costOf_58 : decode cX5_costOf 58 = .ok (.getfield 72, 3) := by decide +kernel
theorem dX5_costOf_61 : decode cX5_costOf 61 = .ok (.iload 5, 2) := by decide +kernel
theorem dX5_costOf_63 : decode cX5_costOf 63 = .ok (.baload, 1) := by decide +kernel
theorem dX5_costOf_64 : decode cX5_costOf 64 = .ok (.ifCond .eq 30, 3) := by decide +kernel
theorem dX5_costOf_67 : decode cX5_costOf 67 = .ok (.aload_n 0, 1) := by decide +kernel
theorem dX5_costOf_68 : decode cX5_costOf 68 = .ok (.iload 4, 2) := by decide +kernel
theorem dX5_costOf_70 : decode cX5_costOf 70 = .ok (.iload_n 2, 1) := by decide +kernel
theorem dX5_costOf_71 : decode cX5_costOf 71 = .ok (.invokevirtual 155, 3) := by decide +kernel
theorem dX5_costOf_74 : decode cX5_costOf 74 = .ok (.aload_n 0, 1) := by decide +kernel
theorem dX5_costOf_75 : decode cX5_costOf 75 = .ok (.getfield 76, 3) := by decide +kernel
theorem dX5_costOf_78 : decode cX5_costOf 78 = .ok (.iload 5, 2) := by decide +kernel
theorem dX5_costOf_80 : decode cX5_costOf 80 = .ok (.iaload, 1) := by decide +kernel
theorem dX5_costOf_81 : decode cX5_costOf 81 = .ok (.if_icmp .eq 13, 3) := by decide +kernel
theorem dX5_costOf_84 : decode cX5_costOf 84 = .ok (.aload_n 0, 1) := by decide +kernel
theorem dX5_costOf_85 : decode cX5_costOf 85 = .ok (.getfield 79, 3) := by decide +kernel
theorem dX5_costOf_88 : decode cX5_costOf 88 = .ok (.bipush 6, 2) := by decide +kernel
theorem dX5_costOf_90 : decode cX5_costOf 90 = .ok (.iaload, 1) := by decide +kernel
theorem dX5_costOf_91 : decode cX5_costOf 91 = .ok (.goto 4, 3) := by decide +kernel
theorem dX5_costOf_94 : decode cX5_costOf 94 = .ok (.iconst 0, 1) := by decide +kernel
theorem dX5_costOf_95 : decode cX5_costOf 95 = .ok (.iadd, 1) := by decide +kernel
theorem dX5_costOf_96 : decode cX5_costOf 96 = .ok (.istore_n 3, 1) := by decide +kernel
theorem dX5_costOf_97 : decode cX5_costOf 97 = .ok (.iinc 4 1, 3) := by decide +kernel
theorem dX5_costOf_100 : decode cX5_costOf 100 = .ok (.goto (-62), 3) := by decide +kernel
theorem dX5_costOf_103 : decode cX5_costOf 103 = .ok (.iload_n 3, 1) := by decide +kernel
theorem dX5_costOf_104 : decode cX5_costOf 104 = .ok (.ireturn, 1) := by decide +kernel
theorem dX5_cost_0 : decode cX5_cost 0 = .ok (.iload_n 1, 1) := by decide +kernel
theorem dX5_cost_1 : decode cX5_cost 1 = .ok (.invokestatic 164, 3) := by decide +kernel
theorem dX5_cost_4 : decode cX5_cost 4 = .ok (.ifCond .eq 30, 3) := by decide +kernel
theorem dX5_cost_7 : decode cX5_cost 7 = .ok (.iload_n 2, 1) := by decide +kernel
theorem dX5_cost_8 : decode cX5_cost 8 = .ok (.iconst 0, 1) := by decide +kernel
theorem dX5_cost_9 : decode cX5_cost 9 = .ok (.bipush 63, 2) := by decide +kernel
theorem dX5_cost_11 : decode cX5_cost 11 = .ok (.invokestatic 97, 3) := by decide +kernel
theorem dX5_cost_14 : decode cX5_cost 14 = .ok (.ifCond .eq 20, 3) := by decide +kernel
theorem dX5_cost_17 : decode cX5_cost 17 = .ok (.iload_n 2, 1) := by decide +kernel
theorem dX5_cost_18 : decode cX5_cost 18 = .ok (.invokestatic 167, 3) := by decide +kernel
theorem dX5_cost_21 : decode cX5_cost 21 = .ok (.iconst 2, 1) := by decide +kernel
theorem dX5_cost_22 : decode cX5_cost 22 = .ok (.if_icmp .gt 12, 3) := by decide +kernel
theorem dX5_cost_25 : decode cX5_cost 25 = .ok (.aload_n 0, 1) := by decide +kernel
theorem dX5_cost_26 : decode cX5_cost 26 = .ok (.iload_n 1, 1) := by decide +kernel
theorem dX5_cost_27 : decode cX5_cost 27 = .ok (.iload_n 2, 1) := by decide +kernel
theorem dX5_cost_28 : decode cX5_cost 28 = .ok (.invokevirtual 170, 3) := by decide +kernel
theorem dX5_cost_31 : decode cX5_cost 31 = .ok (.goto 4, 3) := by decide +kernel
theorem dX5_cost_34 : decode cX5_cost 34 = .ok (.iconst (-1), 1) := by decide +kernel
theorem dX5_cost_35 : decode cX5_cost 35 = .ok (.ireturn, 1) := by decide +kernel
theorem dX5_findSets_0 : decode cX5_findSets 0 = .ok (.aload_n 0, 1) := by decide +kernel
theorem dX5_findSets_1 : decode cX5_findSets 1 = .ok (.iconst 0, 1) := by decide +kernel
theorem dX5_findSets_2 : decode cX5_findSets 2 = .ok (.putfield 173, 3) := by decide +kernel
theorem dX5_findSets_5 : decode cX5_findSets 5 = .ok (.iconst 0, 1) := by decide +kernel
theorem dX5_findSets_6 : decode cX5_findSets 6 = .ok (.istore_n 2, 1) := by decide +kernel
theorem dX5_findSets_7 : decode cX5_findSets 7 = .ok (.iconst 0, 1) := by decide +kernel
theorem dX5_findSets_8 : decode cX5_findSets 8 = .ok (.istore_n 3, 1) := by decide +kernel
theorem dX5_findSets_9 : decode cX5_findSets 9 = .ok (.iload_n 3, 1) := by decide +kernel
theorem dX5_findSets_10 : decode cX5_findSets 10 = .ok (.bipush 64, 2) := by decide +kernel
theorem dX5_findSets_12 : decode cX5_findSets 12 = .ok (.if_icmp .ge 72, 3) := by decide +kernel
theorem dX5_findSets_15 : decode cX5_findSets 15 = .ok (.iload_n 3, 1) := by decide +kernel
theorem dX5_findSets_16 : decode cX5_findSets 16 = .ok (.invokestatic 167, 3) := by decide +kernel
theorem dX5_findSets_19 : decode cX5_findSets 19 = .ok (.iconst 2, 1) := by decide +kernel
theorem dX5_findSets_20 : decode cX5_findSets 20 = .ok (.if_icmp .gt 58, 3) := by decide +kernel
theorem dX5_findSets_23 : decode cX5_findSets 23 = .ok (.aload_n 0, 1) := by decide +kernel
theorem dX5_findSets_24 : decode cX5_findSets 24 = .ok (.iload_n 1, 1) := by decide +kernel
theorem dX5_findSets_25 : decode cX5_findSets 25 = .ok (.iload_n 3, 1) := by decide +kernel
theorem dX5_findSets_26 : decode cX5_findSets 26 = .ok (.invokevirtual 170, 3) := by decide +kernel
theorem dX5_findSets_29 : decode cX5_findSets 29 = .ok (.istore 4, 2) := by decide +kernel
theorem dX5_findSets_31 : decode cX5_findSets 31 = .ok (.aload_n 0, 1) := by decide +kernel
theorem dX5_findSets_32 : decode cX5_findSets 32 = .ok (.getfield 173, 3) := by decide +kernel
theorem dX5_findSets_35 : decode cX5_findSets 35 = .ok (.ifCond .eq 9, 3) := by decide +kernel
theorem dX5_findSets_38 : decode cX5_findSets 38 = .ok (.iload 4, 2) := by decide +kernel
theorem dX5_findSets_40 : decode cX5_findSets 40 = .ok (.iload_n 2, 1) := by decide +kernel
theorem dX5_findSets_41 : decode cX5_findSets 41 = .ok (.if_icmp .ge 11, 3) := by decide +kernel
theorem dX5_findSets_44 : decode cX5_findSets 44 = .ok (.iload 4, 2) := by decide +kernel
theorem dX5_findSets_46 : decode cX5_findSets 46 = .ok (.istore_n 2, 1) := by decide +kernel
theorem dX5_findSets_47 : decode cX5_findSets 47 = .ok (.aload_n 0, 1) := by decide +kernel
theorem dX5_findSets_48 : decode cX5_findSets 48 = .ok (.iconst 0, 1) := by decide +kernel
theorem dX5_findSets_49 : decode cX5_findSets 49 = .ok (.putfield 173, 3) := by decide +kernel
theorem dX5_findSets_52 : decode cX5_findSets 52 = .ok (.iload 4, 2) := by decide +kernel
theorem dX5_findSets_54 : decode cX5_findSets 54 = .ok (.iload_n 2, 1) := by decide +kernel
theorem dX5_findSets_55 : decode cX5_findSets 55 = .ok (.if_icmp .ne 23, 3) := by decide +kernel
theorem dX5_findSets_58 : decode cX5_findSets 58 = .ok (.aload_n 0, 1) := by decide +kernel
theorem dX5_findSets_59 : decode cX5_findSets 59 = .ok (.getfield 82, 3) := by decide +kernel
theorem dX5_findSets_62 : decode cX5_findSets 62 = .ok (.aload_n 0, 1) := by decide +kernel
theorem dX5_findSets_63 : decode cX5_findSets 63 = .ok (.getfield 173, 3) := by decide +kernel
theorem dX5_findSets_66 : decode cX5_findSets 66 = .ok (.iload_n 3, 1) := by decide +kernel
theorem dX5_findSets_67 : decode cX5_findSets 67 = .ok (.iastore, 1) := by decide +kernel
theorem dX5_findSets_68 : decode cX5_findSets 68 = .ok (.aload_n 0, 1) := by decide +kernel
theorem dX5_findSets_69 : decode cX5_findSets 69 = .ok (.dup, 1) := by decide +kernel
theorem dX5_findSets_70 : decode cX5_findSets 70 = .ok (.getfield 173, 3) := by decide +kernel
theorem dX5_findSets_73 : decode cX5_findSets 73 = .ok (.iconst 1, 1) := by decide +kernel
theorem dX5_findSets_74 : decode cX5_findSets 74 = .ok (.iadd, 1) := by decide +kernel
theorem dX5_findSets_75 : decode cX5_findSets 75 = .ok (.putfield 173, 3) := by decide +kernel
theorem dX5_findSets_78 : decode cX5_findSets 78 = .ok (.iinc 3 1, 3) := by decide +kernel
theorem dX5_findSets_81 : decode cX5_findSets 81 = .ok (.goto (-72), 3) := by decide +kernel
theorem dX5_findSets_84 : decode cX5_findSets 84 = .ok (.return_, 1) := by decide +kernel
theorem dX5_sets_0 : decode cX5_sets 0 = .ok (.iload_n 1, 1) := by decide +kernel
theorem dX5_sets_1 : decode cX5_sets 1 = .ok (.invokestatic 164, 3) := by decide +kernel
theorem dX5_sets_4 : decode cX5_sets 4 = .ok (.ifCond .ne 5, 3) := by decide +kernel
theorem dX5_sets_7 : decode cX5_sets 7 = .ok (.iconst (-1), 1) := by decide +kernel
theorem dX5_sets_8 : decode cX5_sets 8 = .ok (.ireturn, 1) := by decide +kernel
theorem dX5_sets_9 : decode cX5_sets 9 = .ok (.aload_n 0, 1) := by decide +kernel
theorem dX5_sets_10 : decode cX5_sets 10 = .ok (.iload_n 1, 1) := by decide +kernel
theorem dX5_sets_11 : decode cX5_sets 11 = .ok (.invokevirtual 176, 3) := by decide +kernel
theorem dX5_sets_14 : decode cX5_sets 14 = .ok (.aload_n 0, 1) := by decide +kernel
theorem dX5_sets_15 : decode cX5_sets 15 = .ok (.getfield 173, 3) := by decide +kernel
theorem dX5_sets_18 : decode cX5_sets 18 = .ok (.ireturn, 1) := by decide +kernel
theorem dX5_set_0 : decode cX5_set 0 = .ok (.iload_n 1, 1) := by decide +kernel
theorem dX5_set_1 : decode cX5_set 1 = .ok (.invokestatic 164, 3) := by decide +kernel
theorem dX5_set_4 : decode cX5_set 4 = .ok (.ifCond .eq 7, 3) := by decide +kernel
theorem dX5_set_7 : decode cX5_set 7 = .ok (.iload_n 2, 1) := by decide +kernel
theorem dX5_set_8 : decode cX5_set 8 = .ok (.ifCond .ge 5, 3) := by decide +kernel
theorem dX5_set_11 : decode cX5_set 11 = .ok (.iconst (-1), 1) := by decide +kernel
theorem dX5_set_12 : decode cX5_set 12 = .ok (.ireturn, 1) := by decide +kernel
theorem dX5_set_13 : decode cX5_set 13 = .ok (.aload_n 0, 1) := by decide +kernel
theorem dX5_set_14 : decode cX5_set 14 = .ok (.iload_n 1, 1) := by decide +kernel
theorem dX5_set_15 : decode cX5_set 15 = .ok (.invokevirtual 176, 3) := by decide +kernel
theorem dX5_set_18 : decode cX5_set 18 = .ok (.iload_n 2, 1) := by decide +kernel
theorem dX5_set_19 : decode cX5_set 19 = .ok (.aload_n 0, 1) := by decide +kernel
theorem dX5_set_20 : decode cX5_set 20 = .ok (.getfield 173, 3) := by decide +kernel
theorem dX5_set_23 : decode cX5_set 23 = .ok (.if_icmp .ge 12, 3) := by decide +kernel
theorem dX5_set_26 : decode cX5_set 26 = .ok (.aload_n 0, 1) := by decide +kernel
theorem dX5_set_27 : decode cX5_set 27 = .ok (.getfield 82, 3) := by decide +kernel
theorem dX5_set_30 : decode cX5_set 30 = .ok (.iload_n 2, 1) := by decide +kernel
theorem dX5_set_31 : decode cX5_set 31 = .ok (.iaload, 1) := by decide +kernel
theorem dX5_set_32 : decode cX5_set 32 = .ok (.goto 4, 3) := by decide +kernel
theorem dX5_set_35 : decode cX5_set 35 = .ok (.iconst (-1), 1) := by decide +kernel
theorem dX5_set_36 : decode cX5_set 36 = .ok (.ireturn, 1) := by decide +kernel
theorem dX5_greatest_0 : decode cX5_greatest 0 = .ok (.iconst 0, 1) := by decide +kernel
theorem dX5_greatest_1 : decode cX5_greatest 1 = .ok (.istore_n 2, 1) := by decide +kernel
theorem dX5_greatest_2 : decode cX5_greatest 2 = .ok (.iconst 0, 1) := by decide +kernel
theorem dX5_greatest_3 : decode cX5_greatest 3 = .ok (.istore_n 3, 1) := by decide +kernel
theorem dX5_greatest_4 : decode cX5_greatest 4 = .ok (.iload_n 3, 1) := by decide +kernel
theorem dX5_greatest_5 : decode cX5_greatest 5 = .ok (.aload_n 0, 1) := by decide +kernel
theorem dX5_greatest_6 : decode cX5_greatest 6 = .ok (.getfield 173, 3) := by decide +kernel
theorem dX5_greatest_9 : decode cX5_greatest 9 = .ok (.if_icmp .ge 26, 3) := by decide +kernel
theorem dX5_greatest_12 : decode cX5_greatest 12 = .ok (.aload_n 0, 1) := by decide +kernel
theorem dX5_greatest_13 : decode cX5_greatest 13 = .ok (.getfield 85, 3) := by decide +kernel
theorem dX5_greatest_16 : decode cX5_greatest 16 = .ok (.iload_n 3, 1) := by decide +kernel
theorem dX5_greatest_17 : decode cX5_greatest 17 = .ok (.aload_n 0, 1) := by decide +kernel
theorem dX5_greatest_18 : decode cX5_greatest 18 = .ok (.iload_n 1, 1) := by decide +kernel
theorem dX5_greatest_19 : decode cX5_greatest 19 = .ok (.aload_n 0, 1) := by decide +kernel
theorem dX5_greatest_20 : decode cX5_greatest 20 = .ok (.getfield 82, 3) := by decide +kernel
theorem dX5_greatest_23 : decode cX5_greatest 23 = .ok (.iload_n 3, 1) := by decide +kernel
theorem dX5_greatest_24 : decode cX5_greatest 24 = .ok (.iaload, 1) := by decide +kernel
theorem dX5_greatest_25 : decode cX5_greatest 25 = .ok (.invokevirtual 155, 3) := by decide +kernel
theorem dX5_greatest_28 : decode cX5_greatest 28 = .ok (.iastore, 1) := by decide +kernel
theorem dX5_greatest_29 : decode cX5_greatest 29 = .ok (.iinc 3 1, 3) := by decide +kernel
theorem dX5_greatest_32 : decode cX5_greatest 32 = .ok (.goto (-28), 3) := by decide +kernel
theorem dX5_greatest_35 : decode cX5_greatest 35 = .ok (.iconst 0, 1) := by decide +kernel
theorem dX5_greatest_36 : decode cX5_greatest 36 = .ok (.istore_n 3, 1) := by decide +kernel
theorem dX5_greatest_37 : decode cX5_greatest 37 = .ok (.iload_n 3, 1) := by decide +kernel
theorem dX5_greatest_38 : decode cX5_greatest 38 = .ok (.aload_n 0, 1) := by decide +kernel
theorem dX5_greatest_39 : decode cX5_greatest 39 = .ok (.getfield 173, 3) := by decide +kernel
theorem dX5_greatest_42 : decode cX5_greatest 42 = .ok (.if_icmp .ge 69, 3) := by decide +kernel
theorem dX5_greatest_45 : decode cX5_greatest 45 = .ok (.iconst 0, 1) := by decide +kernel
theorem dX5_greatest_46 : decode cX5_greatest 46 = .ok (.istore 4, 2) := by decide +kernel
theorem dX5_greatest_48 : decode cX5_greatest 48 = .ok (.iconst 0, 1) := by decide +kernel
theorem dX5_greatest_49 : decode cX5_greatest 49 = .ok (.istore 5, 2) := by decide +kernel
theorem dX5_greatest_51 : decode cX5_greatest 51 = .ok (.iload 5, 2) := by decide +kernel
theorem dX5_greatest_53 : decode cX5_greatest 53 = .ok (.aload_n 0, 1) := by decide +kernel
theorem dX5_greatest_54 : decode cX5_greatest 54 = .ok (.getfield 173, 3) := by decide +kernel
theorem dX5_greatest_57 : decode cX5_greatest 57 = .ok (.if_icmp .ge 35, 3) := by decide +kernel
theorem dX5_greatest_60 : decode cX5_greatest 60 = .ok (.iload 4, 2) := by decide +kernel
theorem dX5_greatest_62 : decode cX5_greatest 62 = .ok (.aload_n 0, 1) := by decide +kernel
theorem dX5_greatest_63 : decode cX5_greatest 63 = .ok (.getfield 85, 3) := by decide +kernel
theorem dX5_greatest_66 : decode cX5_greatest 66 = .ok (.iload 5, 2) := by decide +kernel
theorem dX5_greatest_68 : decode cX5_greatest 68 = .ok (.iaload, 1) := by decide +kernel
theorem dX5_greatest_69 : decode cX5_greatest 69 = .ok (.aload_n 0, 1) := by decide +kernel
theorem dX5_greatest_70 : decode cX5_greatest 70 = .ok (.getfield 85, 3) := by decide +kernel
theorem dX5_greatest_73 : decode cX5_greatest 73 = .ok (.iload_n 3, 1) := by decide +kernel
theorem dX5_greatest_74 : decode cX5_greatest 74 = .ok (.iaload, 1) := by decide +kernel
theorem dX5_greatest_75 : decode cX5_greatest 75 = .ok (.if_icmp .ne 7, 3) := by decide +kernel
theorem dX5_greatest_78 : decode cX5_greatest 78 = .ok (.iconst 1, 1) := by decide +kernel
theorem dX5_greatest_79 : decode cX5_greatest 79 = .ok (.goto 4, 3) := by decide +kernel
theorem dX5_greatest_82 : decode cX5_greatest 82 = .ok (.iconst 0, 1) := by decide +kernel
theorem dX5_greatest_83 : decode cX5_greatest 83 = .ok (.iadd, 1) := by decide +kernel
theorem dX5_greatest_84 : decode cX5_greatest 84 = .ok (.istore 4, 2) := by decide +kernel
theorem dX5_greatest_86 : decode cX5_greatest 86 = .ok (.iinc 5 1, 3) := by decide +kernel
theorem dX5_greatest_89 : decode cX5_greatest 89 = .ok (.goto (-38), 3) := by decide +kernel
theorem dX5_greatest_92 : decode cX5_greatest 92 = .ok (.iload 4, 2) := by decide +kernel
theorem dX5_greatest_94 : decode cX5_greatest 94 = .ok (.iload_n 2, 1) := by decide +kernel
theorem dX5_greatest_95 : decode cX5_greatest 95 = .ok (.if_icmp .le 8, 3) := by decide +kernel
theorem dX5_greatest_98 : decode cX5_greatest 98 = .ok (.iload 4, 2) := by decide +kernel
theorem dX5_greatest_100 : decode cX5_greatest 100 = .ok (.goto 4, 3) := by decide +kernel
theorem dX5_greatest_103 : decode cX5_greatest 103 = .ok (.iload_n 2, 1) := by decide +kernel
theorem dX5_greatest_104 : decode cX5_greatest 104 = .ok (.istore_n 2, 1) := by decide +kernel
theorem dX5_greatest_105 : decode cX5_greatest 105 = .ok (.iinc 3 1, 3) := by decide +kernel
theorem dX5_greatest_108 : decode cX5_greatest 108 = .ok (.goto (-71), 3) := by decide +kernel
theorem dX5_greatest_111 : decode cX5_greatest 111 = .ok (.iload_n 2, 1) := by decide +kernel
theorem dX5_greatest_112 : decode cX5_greatest 112 = .ok (.ireturn, 1) := by decide +kernel
theorem dX5_next_0 : decode cX5_next 0 = .ok (.iload_n 1, 1) := by decide +kernel
theorem dX5_next_1 : decode cX5_next 1 = .ok (.invokestatic 164, 3) := by decide +kernel
theorem dX5_next_4 : decode cX5_next 4 = .ok (.ifCond .ne 5, 3) := by decide +kernel
theorem dX5_next_7 : decode cX5_next 7 = .ok (.iconst (-1), 1) := by decide +kernel
theorem dX5_next_8 : decode cX5_next 8 = .ok (.ireturn, 1) := by decide +kernel
theorem dX5_next_9 : decode cX5_next 9 = .ok (.aload_n 0, 1) := by decide +kernel
theorem dX5_next_10 : decode cX5_next 10 = .ok (.iload_n 1, 1) := by decide +kernel
theorem dX5_next_11 : decode cX5_next 11 = .ok (.invokevirtual 176, 3) := by decide +kernel
theorem dX5_next_14 : decode cX5_next 14 = .ok (.bipush (-5), 2) := by decide +kernel
theorem dX5_next_16 : decode cX5_next 16 = .ok (.istore_n 2, 1) := by decide +kernel
theorem dX5_next_17 : decode cX5_next 17 = .ok (.iconst 0, 1) := by decide +kernel
theorem dX5_next_18 : decode cX5_next 18 = .ok (.istore_n 3, 1) := by decide +kernel
theorem dX5_next_19 : decode cX5_next 19 = .ok (.iconst 0, 1) := by decide +kernel
theorem dX5_next_20 : decode cX5_next 20 = .ok (.istore 4, 2) := by decide +kernel
theorem dX5_next_22 : decode cX5_next 22 = .ok (.iload 4, 2) := by decide +kernel
theorem dX5_next_24 : decode cX5_next 24 = .ok (.aload_n 0, 1) := by decide +kernel
theorem dX5_next_25 : decode cX5_next 25 = .ok (.getfield 94, 3) := by decide +kernel
theorem dX5_next_28 : decode cX5_next 28 = .ok (.if_icmp .ge 48, 3) := by decide +kernel
theorem dX5_next_31 : decode cX5_next 31 = .ok (.aload_n 0, 1) := by decide +kernel
theorem dX5_next_32 : decode cX5_next 32 = .ok (.getfield 72, 3) := by decide +kernel
theorem dX5_next_35 : decode cX5_next 35 = .ok (.bipush 60, 2) := by decide +kernel
theorem dX5_next_37 : decode cX5_next 37 = .ok (.iload_n 1, 1) := by decide +kernel
theorem dX5_next_38 : decode cX5_next 38 = .ok (.imul, 1) := by decide +kernel
theorem dX5_next_39 : decode cX5_next 39 = .ok (.iload 4, 2) := by decide +kernel
theorem dX5_next_41 : decode cX5_next 41 = .ok (.iadd, 1) := by decide +kernel
theorem dX5_next_42 : decode cX5_next 42 = .ok (.baload, 1) := by decide +kernel
theorem dX5_next_43 : decode cX5_next 43 = .ok (.ifCond .ne 27, 3) := by decide +kernel
theorem dX5_next_46 : decode cX5_next 46 = .ok (.aload_n 0, 1) := by decide +kernel
theorem dX5_next_47 : decode cX5_next 47 = .ok (.iload 4, 2) := by decide +kernel
theorem dX5_next_49 : decode cX5_next 49 = .ok (.invokevirtual 180, 3) := by decide +kernel
theorem dX5_next_52 : decode cX5_next 52 = .ok (.istore 5, 2) := by decide +kernel
theorem dX5_next_54 : decode cX5_next 54 = .ok (.iload_n 2, 1) := by decide +kernel
theorem dX5_next_55 : decode cX5_next 55 = .ok (.ifCond .lt 9, 3) := by decide +kernel
theorem dX5_next_58 : decode cX5_next 58 = .ok (.iload 5, 2) := by decide +kernel
theorem dX5_next_60 : decode cX5_next 60 = .ok (.iload_n 3, 1) := by decide +kernel
theorem dX5_next_61 : decode cX5_next 61 = .ok (.if_icmp .ge 9, 3) := by decide +kernel
theorem dX5_next_64 : decode cX5_next 64 = .ok (.iload 4, 2) := by decide +kernel
theorem dX5_next_66 : decode cX5_next 66 = .ok (.istore_n 2, 1) := by decide +kernel
theorem dX5_next_67 : decode cX5_next 67 = .ok (.iload 5, 2) := by decide +kernel
theorem dX5_next_69 : decode cX5_next 69 = .ok (.istore_n 3, 1) := by decide +kernel
theorem dX5_next_70 : decode cX5_next 70 = .ok (.iinc 4 1, 3) := by decide +kernel
theorem dX5_next_73 : decode cX5_next 73 = .ok (.goto (-51), 3) := by decide +kernel
theorem dX5_next_76 : decode cX5_next 76 = .ok (.iload_n 2, 1) := by decide +kernel
theorem dX5_next_77 : decode cX5_next 77 = .ok (.ireturn, 1) := by decide +kernel
theorem dX5_tellApart_0 : decode cX5_tellApart 0 = .ok (.iconst 0, 1) := by decide +kernel
theorem dX5_tellApart_1 : decode cX5_tellApart 1 = .ok (.istore 5, 2) := by decide +kernel
theorem dX5_tellApart_3 : decode cX5_tellApart 3 = .ok (.iconst 0, 1) := by decide +kernel
theorem dX5_tellApart_4 : decode cX5_tellApart 4 = .ok (.istore 6, 2) := by decide +kernel
theorem dX5_tellApart_6 : decode cX5_tellApart 6 = .ok (.iload 6, 2) := by decide +kernel
theorem dX5_tellApart_8 : decode cX5_tellApart 8 = .ok (.iload 4, 2) := by decide +kernel
theorem dX5_tellApart_10 : decode cX5_tellApart 10 = .ok (.if_icmp .ge 58, 3) := by decide +kernel
theorem dX5_tellApart_13 : decode cX5_tellApart 13 = .ok (.iload 5, 2) := by decide +kernel
theorem dX5_tellApart_15 : decode cX5_tellApart 15 = .ok (.ifCond .ne 40, 3) := by decide +kernel
theorem dX5_tellApart_18 : decode cX5_tellApart 18 = .ok (.iload_n 1, 1) := by decide +kernel
theorem dX5_tellApart_19 : decode cX5_tellApart 19 = .ok (.iload 6, 2) := by decide +kernel
theorem dX5_tellApart_21 : decode cX5_tellApart 21 = .ok (.ishr, 1) := by decide +kernel
theorem dX5_tellApart_22 : decode cX5_tellApart 22 = .ok (.iconst 1, 1) := by decide +kernel
theorem dX5_tellApart_23 : decode cX5_tellApart 23 = .ok (.iand, 1) := by decide +kernel
theorem dX5_tellApart_24 : decode cX5_tellApart 24 = .ok (.iconst 1, 1) := by decide +kernel
theorem dX5_tellApart_25 : decode cX5_tellApart 25 = .ok (.if_icmp .ne 34, 3) := by decide +kernel
theorem dX5_tellApart_28 : decode cX5_tellApart 28 = .ok (.aload_n 0, 1) := by decide +kernel
theorem dX5_tellApart_29 : decode cX5_tellApart 29 = .ok (.getfield 88, 3) := by decide +kernel
theorem dX5_tellApart_32 : decode cX5_tellApart 32 = .ok (.bipush 7, 2) := by decide +kernel
theorem dX5_tellApart_34 : decode cX5_tellApart 34 = .ok (.iload 6, 2) := by decide +kernel
theorem dX5_tellApart_36 : decode cX5_tellApart 36 = .ok (.imul, 1) := by decide +kernel
theorem dX5_tellApart_37 : decode cX5_tellApart 37 = .ok (.iload_n 2, 1) := by decide +kernel
theorem dX5_tellApart_38 : decode cX5_tellApart 38 = .ok (.iadd, 1) := by decide +kernel
theorem dX5_tellApart_39 : decode cX5_tellApart 39 = .ok (.iaload, 1) := by decide +kernel
theorem dX5_tellApart_40 : decode cX5_tellApart 40 = .ok (.aload_n 0, 1) := by decide +kernel
theorem dX5_tellApart_41 : decode cX5_tellApart 41 = .ok (.getfield 88, 3) := by decide +kernel
theorem dX5_tellApart_44 : decode cX5_tellApart 44 = .ok (.bipush 7, 2) := by decide +kernel
theorem dX5_tellApart_46 : decode cX5_tellApart 46 = .ok (.iload 6, 2) := by decide +kernel
theorem dX5_tellApart_48 : decode cX5_tellApart 48 = .ok (.imul, 1) := by decide +kernel
theorem dX5_tellApart_49 : decode cX5_tellApart 49 = .ok (.iload_n 3, 1) := by decide +kernel
theorem dX5_tellApart_50 : decode cX5_tellApart 50 = .ok (.iadd, 1) := by decide +kernel
theorem dX5_tellApart_51 : decode cX5_tellApart 51 = .ok (.iaload, 1) := by decide +kernel
theorem dX5_tellApart_52 : decode cX5_tellApart 52 = .ok (.if_icmp .eq 7, 3) := by decide +kernel
theorem dX5_tellApart_55 : decode cX5_tellApart 55 = .ok (.iconst 1, 1) := by decide +kernel
theorem dX5_tellApart_56 : decode cX5_tellApart 56 = .ok (.goto 4, 3) := by decide +kernel
theorem dX5_tellApart_59 : decode cX5_tellApart 59 = .ok (.iconst 0, 1) := by decide +kernel
theorem dX5_tellApart_60 : decode cX5_tellApart 60 = .ok (.istore 5, 2) := by decide +kernel
theorem dX5_tellApart_62 : decode cX5_tellApart 62 = .ok (.iinc 6 1, 3) := by decide +kernel
theorem dX5_tellApart_65 : decode cX5_tellApart 65 = .ok (.goto (-59), 3) := by decide +kernel
theorem dX5_tellApart_68 : decode cX5_tellApart 68 = .ok (.iload 5, 2) := by decide +kernel
theorem dX5_tellApart_70 : decode cX5_tellApart 70 = .ok (.ireturn, 1) := by decide +kernel
theorem dX5_parting_0 : decode cX5_parting 0 = .ok (.aload_n 0, 1) := by decide +kernel
theorem dX5_parting_1 : decode cX5_parting 1 = .ok (.getfield 94, 3) := by decide +kernel
theorem dX5_parting_4 : decode cX5_parting 4 = .ok (.bipush 12, 2) := by decide +kernel
theorem dX5_parting_6 : decode cX5_parting 6 = .ok (.if_icmp .ge 10, 3) := by decide +kernel
theorem dX5_parting_9 : decode cX5_parting 9 = .ok (.aload_n 0, 1) := by decide +kernel
theorem dX5_parting_10 : decode cX5_parting 10 = .ok (.getfield 94, 3) := by decide +kernel
theorem dX5_parting_13 : decode cX5_parting 13 = .ok (.goto 5, 3) := by decide +kernel
theorem dX5_parting_16 : decode cX5_parting 16 = .ok (.bipush 12, 2) := by decide +kernel
theorem dX5_parting_18 : decode cX5_parting 18 = .ok (.istore_n 1, 1) := by decide +kernel
theorem dX5_parting_19 : decode cX5_parting 19 = .ok (.iconst 0, 1) := by decide +kernel
theorem dX5_parting_20 : decode cX5_parting 20 = .ok (.istore_n 2, 1) := by decide +kernel
theorem dX5_parting_21 : decode cX5_parting 21 = .ok (.iload_n 2, 1) := by decide +kernel
theorem dX5_parting_22 : decode cX5_parting 22 = .ok (.iload_n 1, 1) := by decide +kernel
theorem dX5_parting_23 : decode cX5_parting 23 = .ok (.if_icmp .ge 52, 3) := by decide +kernel
theorem dX5_parting_26 : decode cX5_parting 26 = .ok (.iconst 0, 1) := by decide +kernel
theorem dX5_parting_27 : decode cX5_parting 27 = .ok (.istore_n 3, 1) := by decide +kernel
theorem dX5_parting_28 : decode cX5_parting 28 = .ok (.iload_n 3, 1) := by decide +kernel
theorem dX5_parting_29 : decode cX5_parting 29 = .ok (.bipush 7, 2) := by decide +kernel
theorem dX5_parting_31 : decode cX5_parting 31 = .ok (.if_icmp .ge 38, 3) := by decide +kernel
theorem dX5_parting_34 : decode cX5_parting 34 = .ok (.aload_n 0, 1) := by decide +kernel
theorem dX5_parting_35 : decode cX5_parting 35 = .ok (.getfield 88, 3) := by decide +kernel
theorem dX5_parting_38 : decode cX5_parting 38 = .ok (.bipush 7, 2) := by decide +kernel
theorem dX5_parting_40 : decode cX5_parting 40 = .ok (.iload_n 2, 1) := by decide +kernel
theorem dX5_parting_41 : decode cX5_parting 41 = .ok (.imul, 1) := by decide +kernel
theorem dX5_parting_42 : decode cX5_parting 42 = .ok (.iload_n 3, 1) := by decide +kernel
theorem dX5_parting_43 : decode cX5_parting 43 = .ok (.iadd, 1) := by decide +kernel
theorem dX5_parting_44 : decode cX5_parting 44 = .ok (.aload_n 0, 1) := by decide +kernel
theorem dX5_parting_45 : decode cX5_parting 45 = .ok (.iload_n 2, 1) := by decide +kernel
theorem dX5_parting_46 : decode cX5_parting 46 = .ok (.iload_n 3, 1) := by decide +kernel
theorem dX5_parting_47 : decode cX5_parting 47 = .ok (.ifCond .ne 7, 3) := by decide +kernel
theorem dX5_parting_50 : decode cX5_parting 50 = .ok (.iconst 0, 1) := by decide +kernel
theorem dX5_parting_51 : decode cX5_parting 51 = .ok (.goto 8, 3) := by decide +kernel
theorem dX5_parting_54 : decode cX5_parting 54 = .ok (.iconst 1, 1) := by decide +kernel
theorem dX5_parting_55 : decode cX5_parting 55 = .ok (.iload_n 3, 1) := by decide +kernel
theorem dX5_parting_56 : decode cX5_parting 56 = .ok (.iconst 1, 1) := by decide +kernel
theorem dX5_parting_57 : decode cX5_parting 57 = .ok (.isub, 1) := by decide +kernel
theorem dX5_parting_58 : decode cX5_parting 58 = .ok (.ishl, 1) := by decide +kernel
theorem dX5_parting_59 : decode cX5_parting 59 = .ok (.invokevirtual 155, 3) := by decide +kernel
theorem dX5_parting_62 : decode cX5_parting 62 = .ok (.iastore, 1) := by decide +kernel
theorem dX5_parting_63 : decode cX5_parting 63 = .ok (.iinc 3 1, 3) := by decide +kernel
theorem dX5_parting_66 : decode cX5_parting 66 = .ok (.goto (-38), 3) := by decide +kernel
theorem dX5_parting_69 : decode cX5_parting 69 = .ok (.iinc 2 1, 3) := by decide +kernel
theorem dX5_parting_72 : decode cX5_parting 72 = .ok (.goto (-51), 3) := by decide +kernel
theorem dX5_parting_75 : decode cX5_parting 75 = .ok (.bipush (-5), 2) := by decide +kernel
theorem dX5_parting_77 : decode cX5_parting 77 = .ok (.istore_n 2, 1) := by decide +kernel
theorem dX5_parting_78 : decode cX5_parting 78 = .ok (.iconst 0, 1) := by decide +kernel
theorem dX5_parting_79 : decode cX5_parting 79 = .ok (.istore_n 3, 1) := by decide +kernel
theorem dX5_parting_80 : decode cX5_parting 80 = .ok (.iload_n 3, 1) := by decide +kernel
theorem dX5_parting_81 : decode cX5_parting 81 = .ok (.iconst 1, 1) := by decide +kernel
theorem dX5_parting_82 : decode cX5_parting 82 = .ok (.iload_n 1, 1) := by decide +kernel
theorem dX5_parting_83 : decode cX5_parting 83 = .ok (.ishl, 1) := by decide +kernel
theorem dX5_parting_84 : decode cX5_parting 84 = .ok (.if_icmp .ge 124, 3) := by decide +kernel
theorem dX5_parting_87 : decode cX5_parting 87 = .ok (.iconst 0, 1) := by decide +kernel
theorem dX5_parting_88 : decode cX5_parting 88 = .ok (.istore 4, 2) := by decide +kernel
theorem dX5_parting_90 : decode cX5_parting 90 = .ok (.iconst 0, 1) := by decide +kernel
theorem dX5_parting_91 : decode cX5_parting 91 = .ok (.istore 5, 2) := by decide +kernel
theorem dX5_parting_93 : decode cX5_parting 93 = .ok (.iload 5, 2) := by decide +kernel
theorem dX5_parting_95 : decode cX5_parting 95 = .ok (.iload_n 1, 1) := by decide +kernel
theorem dX5_parting_96 : decode cX5_parting 96 = .ok (.if_icmp .ge 20, 3) := by decide +kernel
theorem dX5_parting_99 : decode cX5_parting 99 = .ok (.iload 4, 2) := by decide +kernel
theorem dX5_parting_101 : decode cX5_parting 101 = .ok (.iload_n 3, 1) := by decide +kernel
theorem dX5_parting_102 : decode cX5_parting 102 = .ok (.iload 5, 2) := by decide +kernel
theorem dX5_parting_104 : decode cX5_parting 104 = .ok (.ishr, 1) := by decide +kernel
theorem dX5_parting_105 : decode cX5_parting 105 = .ok (.iconst 1, 1) := by decide +kernel
theorem dX5_parting_106 : decode cX5_parting 106 = .ok (.iand, 1) := by decide +kernel
theorem dX5_parting_107 : decode cX5_parting 107 = .ok (.iadd, 1) := by decide +kernel
theorem dX5_parting_108 : decode cX5_parting 108 = .ok (.istore 4, 2) := by decide +kernel
theorem dX5_parting_110 : decode cX5_parting 110 = .ok (.iinc 5 1, 3) := by decide +kernel
theorem dX5_parting_113 : decode cX5_parting 113 = .ok (.goto (-20), 3) := by decide +kernel
theorem dX5_parting_116 : decode cX5_parting 116 = .ok (.iload_n 2, 1) := by decide +kernel
theorem dX5_parting_117 : decode cX5_parting 117 = .ok (.ifCond .lt 9, 3) := by decide +kernel
theorem dX5_parting_120 : decode cX5_parting 120 = .ok (.iload 4, 2) := by decide +kernel
theorem dX5_parting_122 : decode cX5_parting 122 = .ok (.iload_n 2, 1) := by decide +kernel
theorem dX5_parting_123 : decode cX5_parting 123 = .ok (.if_icmp .ge 7, 3) := by decide +kernel
theorem dX5_parting_126 : decode cX5_parting 126 = .ok (.iconst 1, 1) := by decide +kernel
theorem dX5_parting_127 : decode cX5_parting 127 = .ok (.goto 4, 3) := by decide +kernel
theorem dX5_parting_130 : decode cX5_parting 130 = .ok (.iconst 0, 1) := by decide +kernel
theorem dX5_parting_131 : decode cX5_parting 131 = .ok (.istore 5, 2) := by decide +kernel
theorem dX5_parting_133 : decode cX5_parting 133 = .ok (.iconst 0, 1) := by decide +kernel
theorem dX5_parting_134 : decode cX5_parting 134 = .ok (.istore 6, 2) := by decide +kernel
theorem dX5_parting_136 : decode cX5_parting 136 = .ok (.iload 6, 2) := by decide +kernel
theorem dX5_parting_138 : decode cX5_parting 138 = .ok (.bipush 7, 2) := by decide +kernel
theorem dX5_parting_140 : decode cX5_parting 140 = .ok (.if_icmp .ge 50, 3) := by decide +kernel
theorem dX5_parting_143 : decode cX5_parting 143 = .ok (.iload 5, 2) := by decide +kernel
theorem dX5_parting_145 : decode cX5_parting 145 = .ok (.ifCond .eq 45, 3) := by decide +kernel
theorem dX5_parting_148 : decode cX5_parting 148 = .ok (.iload 6, 2) := by decide +kernel
theorem dX5_parting_150 : decode cX5_parting 150 = .ok (.iconst 1, 1) := by decide +kernel
theorem dX5_parting_151 : decode cX5_parting 151 = .ok (.iadd, 1) := by decide +kernel
theorem dX5_parting_152 : decode cX5_parting 152 = .ok (.istore 7, 2) := by decide +kernel
theorem dX5_parting_154 : decode cX5_parting 154 = .ok (.iload 7, 2) := by decide +kernel
theorem dX5_parting_156 : decode cX5_parting 156 = .ok (.bipush 7, 2) := by decide +kernel
theorem dX5_parting_158 : decode cX5_parting 158 = .ok (.if_icmp .ge 26, 3) := by decide +kernel
theorem dX5_parting_161 : decode cX5_parting 161 = .ok (.iload 5, 2) := by decide +kernel
theorem dX5_parting_163 : decode cX5_parting 163 = .ok (.ifCond .eq 21, 3) := by decide +kernel
theorem dX5_parting_166 : decode cX5_parting 166 = .ok (.aload_n 0, 1) := by decide +kernel
theorem dX5_parting_167 : decode cX5_parting 167 = .ok (.iload_n 3, 1) := by decide +kernel
theorem dX5_parting_168 : decode cX5_parting 168 = .ok (.iload 6, 2) := by decide +kernel
theorem dX5_parting_170 : decode cX5_parting 170 = .ok (.iload 7, 2) := by decide +kernel
theorem dX5_parting_172 : decode cX5_parting 172 = .ok (.iload_n 1, 1) := by decide +kernel
theorem dX5_parting_173 : decode cX5_parting 173 = .ok (.invokevirtual 183, 3) := by decide +kernel
theorem dX5_parting_176 : decode cX5_parting 176 = .ok (.istore 5, 2) := by decide +kernel
theorem dX5_parting_178 : decode cX5_parting 178 = .ok (.iinc 7 1, 3) := by decide +kernel
theorem dX5_parting_181 : decode cX5_parting 181 = .ok (.goto (-27), 3) := by decide +kernel
theorem dX5_parting_184 : decode cX5_parting 184 = .ok (.iinc 6 1, 3) := by decide +kernel
theorem dX5_parting_187 : decode cX5_parting 187 = .ok (.goto (-51), 3) := by decide +kernel
theorem dX5_parting_190 : decode cX5_parting 190 = .ok (.iload 5, 2) := by decide +kernel
theorem dX5_parting_192 : decode cX5_parting 192 = .ok (.ifCond .eq 8, 3) := by decide +kernel
theorem dX5_parting_195 : decode cX5_parting 195 = .ok (.iload 4, 2) := by decide +kernel
theorem dX5_parting_197 : decode cX5_parting 197 = .ok (.goto 4, 3) := by decide +kernel
theorem dX5_parting_200 : decode cX5_parting 200 = .ok (.iload_n 2, 1) := by decide +kernel
theorem dX5_parting_201 : decode cX5_parting 201 = .ok (.istore_n 2, 1) := by decide +kernel
theorem dX5_parting_202 : decode cX5_parting 202 = .ok (.iinc 3 1, 3) := by decide +kernel
theorem dX5_parting_205 : decode cX5_parting 205 = .ok (.goto (-125), 3) := by decide +kernel
theorem dX5_parting_208 : decode cX5_parting 208 = .ok (.iload_n 2, 1) := by decide +kernel
theorem dX5_parting_209 : decode cX5_parting 209 = .ok (.ireturn, 1) := by decide +kernel
theorem dX5_count_0 : decode cX5_count 0 = .ok (.iconst 0, 1) := by decide +kernel
theorem dX5_count_1 : decode cX5_count 1 = .ok (.istore_n 2, 1) := by decide +kernel
theorem dX5_count_2 : decode cX5_count 2 = .ok (.iconst 0, 1) := by decide +kernel
theorem dX5_count_3 : decode cX5_count 3 = .ok (.istore_n 3, 1) := by decide +kernel
theorem dX5_count_4 : decode cX5_count 4 = .ok (.iload_n 3, 1) := by decide +kernel
theorem dX5_count_5 : decode cX5_count 5 = .ok (.aload_n 0, 1) := by decide +kernel
theorem dX5_count_6 : decode cX5_count 6 = .ok (.getfield 91, 3) := by decide +kernel
theorem dX5_count_9 : decode cX5_count 9 = .ok (.if_icmp .ge 18, 3) := by decide +kernel
theorem dX5_count_12 : decode cX5_count 12 = .ok (.iload_n 2, 1) := by decide +kernel
theorem dX5_count_13 : decode cX5_count 13 = .ok (.aload_n 0, 1) := by decide +kernel
theorem dX5_count_14 : decode cX5_count 14 = .ok (.getfield 19, 3) := by decide +kernel
theorem dX5_count_17 : decode cX5_count 17 = .ok (.iload_n 3, 1) := by decide +kernel
theorem dX5_count_18 : decode cX5_count 18 = .ok (.iaload, 1) := by decide +kernel
theorem dX5_count_19 : decode cX5_count 19 = .ok (.iadd, 1) := by decide +kernel
theorem dX5_count_20 : decode cX5_count 20 = .ok (.istore_n 2, 1) := by decide +kernel
theorem dX5_count_21 : decode cX5_count 21 = .ok (.iinc 3 1, 3) := by decide +kernel
theorem dX5_count_24 : decode cX5_count 24 = .ok (.goto (-20), 3) := by decide +kernel
theorem dX5_count_27 : decode cX5_count 27 = .ok (.iload_n 1, 1) := by decide +kernel
theorem dX5_count_28 : decode cX5_count 28 = .ok (.ifCond .ne 10, 3) := by decide +kernel
theorem dX5_count_31 : decode cX5_count 31 = .ok (.aload_n 0, 1) := by decide +kernel
theorem dX5_count_32 : decode cX5_count 32 = .ok (.getfield 91, 3) := by decide +kernel
theorem dX5_count_35 : decode cX5_count 35 = .ok (.goto 25, 3) := by decide +kernel
theorem dX5_count_38 : decode cX5_count 38 = .ok (.iload_n 1, 1) := by decide +kernel
theorem dX5_count_39 : decode cX5_count 39 = .ok (.iconst 1, 1) := by decide +kernel
theorem dX5_count_40 : decode cX5_count 40 = .ok (.if_icmp .ne 10, 3) := by decide +kernel
theorem dX5_count_43 : decode cX5_count 43 = .ok (.aload_n 0, 1) := by decide +kernel
theorem dX5_count_44 : decode cX5_count 44 = .ok (.getfield 94, 3) := by decide +kernel
theorem dX5_count_47 : decode cX5_count 47 = .ok (.goto 13, 3) := by decide +kernel
theorem dX5_count_50 : decode cX5_count 50 = .ok (.iload_n 1, 1) := by decide +kernel
theorem dX5_count_51 : decode cX5_count 51 = .ok (.iconst 2, 1) := by decide +kernel
theorem dX5_count_52 : decode cX5_count 52 = .ok (.if_icmp .ne 7, 3) := by decide +kernel
theorem dX5_count_55 : decode cX5_count 55 = .ok (.iload_n 2, 1) := by decide +kernel
theorem dX5_count_56 : decode cX5_count 56 = .ok (.goto 4, 3) := by decide +kernel
theorem dX5_count_59 : decode cX5_count 59 = .ok (.iconst (-1), 1) := by decide +kernel
theorem dX5_count_60 : decode cX5_count 60 = .ok (.ireturn, 1) := by decide +kernel
end
section
theorem dL_law_0 : decode cL_law 0 = .ok (.new 7, 3) := by decide +kernel
theorem dL_law_3 : decode cL_law 3 = .ok (.dup, 1) := by decide +kernel
theorem dL_law_4 : decode cL_law 4 = .ok (.invokespecial 9, 3) := by decide +kernel
theorem dL_law_7 : decode cL_law 7 = .ok (.astore_n 1, 1) := by decide +kernel
theorem dL_law_8 : decode cL_law 8 = .ok (.new 10, 3) := by decide +kernel
theorem dL_law_11 : decode cL_law 11 = .ok (.dup, 1) := by decide +kernel
theorem dL_law_12 : decode cL_law 12 = .ok (.invokespecial 12, 3) := by decide +kernel
theorem dL_law_15 : decode cL_law 15 = .ok (.astore_n 2, 1) := by decide +kernel
theorem dL_law_16 : decode cL_law 16 = .ok (.iconst 0, 1) := by decide +kernel
theorem dL_law_17 : decode cL_law 17 = .ok (.istore_n 3, 1) := by decide +kernel
theorem dL_law_18 : decode cL_law 18 = .ok (.iload_n 3, 1) := by decide +kernel
theorem dL_law_19 : decode cL_law 19 = .ok (.aload_n 0, 1) := by decide +kernel
theorem dL_law_20 : decode cL_law 20 = .ok (.arraylength, 1) := by decide +kernel
theorem dL_law_21 : decode cL_law 21 = .ok (.iconst 5, 1) := by decide +kernel
theorem dL_law_22 : decode cL_law 22 = .ok (.isub, 1) := by decide +kernel
theorem dL_law_23 : decode cL_law 23 = .ok (.if_icmp .gt 842, 3) := by decide +kernel
theorem dL_law_26 : decode cL_law 26 = .ok (.aload_n 0, 1) := by decide +kernel
theorem dL_law_27 : decode cL_law 27 = .ok (.iload_n 3, 1) := by decide +kernel
theorem dL_law_28 : decode cL_law 28 = .ok (.iaload, 1) := by decide +kernel
theorem dL_law_29 : decode cL_law 29 = .ok (.bipush 31, 2) := by decide +kernel
theorem dL_law_31 : decode cL_law 31 = .ok (.iand, 1) := by decide +kernel
theorem dL_law_32 : decode cL_law 32 = .ok (.tableswitch 827 0 22 #[108, 121, 174, 217, 240, 283, 306, 329, 382, 415, 448, 481, 514, 537, 570, 603, 646, 679, 712, 735, 768, 791, 804], 108) := by decide +kernel
theorem dL_law_140 : decode cL_law 140 = .ok (.aload_n 1, 1) := by decide +kernel
theorem dL_law_141 : decode cL_law 141 = .ok (.invokevirtual 13, 3) := by decide +kernel
theorem dL_law_144 : decode cL_law 144 = .ok (.aload_n 2, 1) := by decide +kernel
theorem dL_law_145 : decode cL_law 145 = .ok (.invokevirtual 17, 3) := by decide +kernel
theorem dL_law_148 : decode cL_law 148 = .ok (.if_icmp .eq 711, 3) := by decide +kernel
theorem dL_law_151 : decode cL_law 151 = .ok (.iconst 0, 1) := by decide +kernel
theorem dL_law_152 : decode cL_law 152 = .ok (.ireturn, 1) := by decide +kernel
theorem dL_law_153 : decode cL_law 153 = .ok (.aload_n 1, 1) := by decide +kernel
theorem dL_law_154 : decode cL_law 154 = .ok (.aload_n 0, 1) := by decide +kernel
theorem dL_law_155 : decode cL_law 155 = .ok (.iload_n 3, 1) := by decide +kernel
theorem dL_law_156 : decode cL_law 156 = .ok (.iconst 1, 1) := by decide +kernel
theorem dL_law_157 : decode cL_law 157 = .ok (.iadd, 1) := by decide +kernel
theorem dL_law_158 : decode cL_law 158 = .ok (.iaload, 1) := by decide +kernel
theorem dL_law_159 : decode cL_law 159 = .ok (.aload_n 0, 1) := by decide +kernel
theorem dL_law_160 : decode cL_law 160 = .ok (.iload_n 3, 1) := by decide +kernel
theorem dL_law_161 : decode cL_law 161 = .ok (.iconst 2, 1) := by decide +kernel
theorem dL_law_162 : decode cL_law 162 = .ok (.iadd, 1) := by decide +kernel
theorem dL_law_163 : decode cL_law 163 = .ok (.iaload, 1) := by decide +kernel
theorem dL_law_164 : decode cL_law 164 = .ok (.aload_n 0, 1) := by decide +kernel
theorem dL_law_165 : decode cL_law 165 = .ok (.iload_n 3, 1) := by decide +kernel
theorem dL_law_166 : decode cL_law 166 = .ok (.iconst 3, 1) := by decide +kernel
theorem dL_law_167 : decode cL_law 167 = .ok (.iadd, 1) := by decide +kernel
theorem dL_law_168 : decode cL_law 168 = .ok (.iaload, 1) := by decide +kernel
theorem dL_law_169 : decode cL_law 169 = .ok (.aload_n 0, 1) := by decide +kernel
theorem dL_law_170 : decode cL_law 170 = .ok (.iload_n 3, 1) := by decide +kernel
theorem dL_law_171 : decode cL_law 171 = .ok (.iconst 4, 1) := by decide +kernel
theorem dL_law_172 : decode cL_law 172 = .ok (.iadd, 1) := by decide +kernel
theorem dL_law_173 : decode cL_law 173 = .ok (.iaload, 1) := by decide +kernel
theorem dL_law_174 : decode cL_law 174 = .ok (.invokevirtual 18, 3) := by decide +kernel
theorem dL_law_177 : decode cL_law 177 = .ok (.aload_n 2, 1) := by decide +kernel
theorem dL_law_178 : decode cL_law 178 = .ok (.aload_n 0, 1) := by decide +kernel
theorem dL_law_179 : decode cL_law 179 = .ok (.iload_n 3, 1) := by decide +kernel
theorem dL_law_180 : decode cL_law 180 = .ok (.iconst 1, 1) := by decide +kernel
theorem dL_law_181 : decode cL_law 181 = .ok (.iadd, 1) := by decide +kernel
theorem dL_law_182 : decode cL_law 182 = .ok (.iaload, 1) := by decide +kernel
theorem dL_law_183 : decode cL_law 183 = .ok (.aload_n 0, 1) := by decide +kernel
theorem dL_law_184 : decode cL_law 184 = .ok (.iload_n 3, 1) := by decide +kernel
theorem dL_law_185 : decode cL_law 185 = .ok (.iconst 2, 1) := by decide +kernel
theorem dL_law_186 : decode cL_law 186 = .ok (.iadd, 1) := by decide +kernel
theorem dL_law_187 : decode cL_law 187 = .ok (.iaload, 1) := by decide +kernel
theorem dL_law_188 : decode cL_law 188 = .ok (.aload_n 0, 1) := by decide +kernel
theorem dL_law_189 : decode cL_law 189 = .ok (.iload_n 3, 1) := by decide +kernel
theorem dL_law_190 : decode cL_law 190 = .ok (.iconst 3, 1) := by decide +kernel
theorem dL_law_191 : decode cL_law 191 = .ok (.iadd, 1) := by decide +kernel
theorem dL_law_192 : decode cL_law 192 = .ok (.iaload, 1) := by decide +kernel
theorem dL_law_193 : decode cL_law 193 = .ok (.aload_n 0, 1) := by decide +kernel
theorem dL_law_194 : decode cL_law 194 = .ok (.iload_n 3, 1) := by decide +kernel
theorem dL_law_195 : decode cL_law 195 = .ok (.iconst 4, 1) := by decide +kernel
theorem dL_law_196 : decode cL_law 196 = .ok (.iadd, 1) := by decide +kernel
theorem dL_law_197 : decode cL_law 197 = .ok (.iaload, 1) := by decide +kernel
theorem dL_law_198 : decode cL_law 198 = .ok (.invokevirtual 22, 3) := by decide +kernel
theorem dL_law_201 : decode cL_law 201 = .ok (.if_icmp .eq 658, 3) := by decide +kernel
theorem dL_law_204 : decode cL_law 204 = .ok (.iconst 0, 1) := by decide +kernel
theorem dL_law_205 : decode cL_law 205 = .ok (.ireturn, 1) := by decide +kernel
theorem dL_law_206 : decode cL_law 206 = .ok (.aload_n 1, 1) := by decide +kernel
theorem dL_law_207 : decode cL_law 207 = .ok (.aload_n 0, 1) := by decide +kernel
theorem dL_law_208 : decode cL_law 208 = .ok (.iload_n 3, 1) := by decide +kernel
theorem dL_law_209 : decode cL_law 209 = .ok (.iconst 1, 1) := by decide +kernel
theorem dL_law_210 : decode cL_law 210 = .ok (.iadd, 1) := by decide +kernel
theorem dL_law_211 : decode cL_law 211 = .ok (.iaload, 1) := by decide +kernel
theorem dL_law_212 : decode cL_law 212 = .ok (.aload_n 0, 1) := by decide +kernel
theorem dL_law_213 : decode cL_law 213 = .ok (.iload_n 3, 1) := by decide +kernel
theorem dL_law_214 : decode cL_law 214 = .ok (.iconst 2, 1) := by decide +kernel
theorem dL_law_215 : decode cL_law 215 = .ok (.iadd, 1) := by decide +kernel
theorem dL_law_216 : decode cL_law 216 = .ok (.iaload, 1) := by decide +kernel
theorem dL_law_217 : decode cL_law 217 = .ok (.aload_n 0, 1) := by decide +kernel
theorem dL_law_218 : decode cL_law 218 = .ok (.iload_n 3, 1) := by decide +kernel
theorem dL_law_219 : decode cL_law 219 = .ok (.iconst 3, 1) := by decide +kernel
theorem dL_law_220 : decode cL_law 220 = .ok (.iadd, 1) := by decide +kernel
theorem dL_law_221 : decode cL_law 221 = .ok (.iaload, 1) := by decide +kernel
theorem dL_law_222 : decode cL_law 222 = .ok (.invokevirtual 23, 3) := by decide +kernel
theorem dL_law_225 : decode cL_law 225 = .ok (.aload_n 2, 1) := by decide +kernel
theorem dL_law_226 : decode cL_law 226 = .ok (.aload_n 0, 1) := by decide +kernel
theorem dL_law_227 : decode cL_law 227 = .ok (.iload_n 3, 1) := by decide +kernel
theorem dL_law_228 : decode cL_law 228 = .ok (.iconst 1, 1) := by decide +kernel
theorem dL_law_229 : decode cL_law 229 = .ok (.iadd, 1) := by decide +kernel
theorem dL_law_230 : decode cL_law 230 = .ok (.iaload, 1) := by decide +kernel
theorem dL_law_231 : decode cL_law 231 = .ok (.aload_n 0, 1) := by decide +kernel
theorem dL_law_232 : decode cL_law 232 = .ok (.iload_n 3, 1) := by decide +kernel
theorem dL_law_233 : decode cL_law 233 = .ok (.iconst 2, 1) := by decide +kernel
theorem dL_law_234 : decode cL_law 234 = .ok (.iadd, 1) := by decide +kernel
theorem dL_law_235 : decode cL_law 235 = .ok (.iaload, 1) := by decide +kernel
theorem dL_law_236 : decode cL_law 236 = .ok (.aload_n 0, 1) := by decide +kernel
theorem dL_law_237 : decode cL_law 237 = .ok (.iload_n 3, 1) := by decide +kernel
theorem dL_law_238 : decode cL_law 238 = .ok (.iconst 3, 1) := by decide +kernel
theorem dL_law_239 : decode cL_law 239 = .ok (.iadd, 1) := by decide +kernel
theorem dL_law_240 : decode cL_law 240 = .ok (.iaload, 1) := by decide +kernel
theorem dL_law_241 : decode cL_law 241 = .ok (.invokevirtual 27, 3) := by decide +kernel
theorem dL_law_244 : decode cL_law 244 = .ok (.if_icmp .eq 615, 3) := by decide +kernel
theorem dL_law_247 : decode cL_law 247 = .ok (.iconst 0, 1) := by decide +kernel
theorem dL_law_248 : decode cL_law 248 = .ok (.ireturn, 1) := by decide +kernel
theorem dL_law_249 : decode cL_law 249 = .ok (.aload_n 1, 1) := by decide +kernel
theorem dL_law_250 : decode cL_law 250 = .ok (.aload_n 0, 1) := by decide +kernel
theorem dL_law_251 : decode cL_law 251 = .ok (.iload_n 3, 1) := by decide +kernel
theorem dL_law_252 : decode cL_law 252 = .ok (.iconst 1, 1) := by decide +kernel
theorem dL_law_253 : decode cL_law 253 = .ok (.iadd, 1) := by decide +kernel
theorem dL_law_254 : decode cL_law 254 = .ok (.iaload, 1) := by decide +kernel
theorem dL_law_255 : decode cL_law 255 = .ok (.invokevirtual 28, 3) := by decide +kernel
theorem dL_law_258 : decode cL_law 258 = .ok (.aload_n 2, 1) := by decide +kernel
theorem dL_law_259 : decode cL_law 259 = .ok (.aload_n 0, 1) := by decide +kernel
theorem dL_law_260 : decode cL_law 260 = .ok (.iload_n 3, 1) := by decide +kernel
theorem dL_law_261 : decode cL_law 261 = .ok (.iconst 1, 1) := by decide +kernel
theorem dL_law_262 : decode cL_law 262 = .ok (.iadd, 1) := by decide +kernel
theorem dL_law_263 : decode cL_law 263 = .ok (.iaload, 1) := by decide +kernel
theorem dL_law_264 : decode cL_law 264 = .ok (.invokevirtual 32, 3) := by decide +kernel
theorem dL_law_267 : decode cL_law 267 = .ok (.if_icmp .eq 592, 3) := by decide +kernel
theorem dL_law_270 : decode cL_law 270 = .ok (.iconst 0, 1) := by decide +kernel
theorem dL_law_271 : decode cL_law 271 = .ok (.ireturn, 1) := by decide +kernel
theorem dL_law_272 : decode cL_law 272 = .ok (.aload_n 1, 1) := by decide +kernel
theorem dL_law_273 : decode cL_law 273 = .ok (.aload_n 0, 1) := by decide +kernel
theorem dL_law_274 : decode cL_law 274 = .ok (.iload_n 3, 1) := by decide +kernel
theorem dL_law_275 : decode cL_law 275 = .ok (.iconst 1, 1) := by decide +kernel
theorem dL_law_276 : decode cL_law 276 = .ok (.iadd, 1) := by decide +kernel
theorem dL_law_277 : decode cL_law 277 = .ok (.iaload, 1) := by decide +kernel
theorem dL_law_278 : decode cL_law 278 = .ok (.aload_n 0, 1) := by decide +kernel
theorem dL_law_279 : decode cL_law 279 = .ok (.iload_n 3, 1) := by decide +kernel
theorem dL_law_280 : decode cL_law 280 = .ok (.iconst 2, 1) := by decide +kernel
theorem dL_law_281 : decode cL_law 281 = .ok (.iadd, 1) := by decide +kernel
theorem dL_law_282 : decode cL_law 282 = .ok (.iaload, 1) := by decide +kernel
theorem dL_law_283 : decode cL_law 283 = .ok (.aload_n 0, 1) := by decide +kernel
theorem dL_law_284 : decode cL_law 284 = .ok (.iload_n 3, 1) := by decide +kernel
theorem dL_law_285 : decode cL_law 285 = .ok (.iconst 3, 1) := by decide +kernel
theorem dL_law_286 : decode cL_law 286 = .ok (.iadd, 1) := by decide +kernel
theorem dL_law_287 : decode cL_law 287 = .ok (.iaload, 1) := by decide +kernel
theorem dL_law_288 : decode cL_law 288 = .ok (.invokevirtual 33, 3) := by decide +kernel
theorem dL_law_291 : decode cL_law 291 = .ok (.aload_n 2, 1) := by decide +kernel
theorem dL_law_292 : decode cL_law 292 = .ok (.aload_n 0, 1) := by decide +kernel
theorem dL_law_293 : decode cL_law 293 = .ok (.iload_n 3, 1) := by decide +kernel
theorem dL_law_294 : decode cL_law 294 = .ok (.iconst 1, 1) := by decide +kernel
theorem dL_law_295 : decode cL_law 295 = .ok (.iadd, 1) := by decide +kernel
theorem dL_law_296 : decode cL_law 296 = .ok (.iaload, 1) := by decide +kernel
theorem dL_law_297 : decode cL_law 297 = .ok (.aload_n 0, 1) := by decide +kernel
theorem dL_law_298 : decode cL_law 298 = .ok (.iload_n 3, 1) := by decide +kernel
theorem dL_law_299 : decode cL_law 299 = .ok (.iconst 2, 1) := by decide +kernel
theorem dL_law_300 : decode cL_law 300 = .ok (.iadd, 1) := by decide +kernel
theorem dL_law_301 : decode cL_law 301 = .ok (.iaload, 1) := by decide +kernel
theorem dL_law_302 : decode cL_law 302 = .ok (.aload_n 0, 1) := by decide +kernel
theorem dL_law_303 : decode cL_law 303 = .ok (.iload_n 3, 1) := by decide +kernel
theorem dL_law_304 : decode cL_law 304 = .ok (.iconst 3, 1) := by decide +kernel
theorem dL_law_305 : decode cL_law 305 = .ok (.iadd, 1) := by decide +kernel
theorem dL_law_306 : decode cL_law 306 = .ok (.iaload, 1) := by decide +kernel
theorem dL_law_307 : decode cL_law 307 = .ok (.invokevirtual 36, 3) := by decide +kernel
theorem dL_law_310 : decode cL_law 310 = .ok (.if_icmp .eq 549, 3) := by decide +kernel
theorem dL_law_313 : decode cL_law 313 = .ok (.iconst 0, 1) := by decide +kernel
theorem dL_law_314 : decode cL_law 314 = .ok (.ireturn, 1) := by decide +kernel
theorem dL_law_315 : decode cL_law 315 = .ok (.aload_n 1, 1) := by decide +kernel
theorem dL_law_316 : decode cL_law 316 = .ok (.aload_n 0, 1) := by decide +kernel
theorem dL_law_317 : decode cL_law 317 = .ok (.iload_n 3, 1) := by decide +kernel
theorem dL_law_318 : decode cL_law 318 = .ok (.iconst 1, 1) := by decide +kernel
theorem dL_law_319 : decode cL_law 319 = .ok (.iadd, 1) := by decide +kernel
theorem dL_law_320 : decode cL_law 320 = .ok (.iaload, 1) := by decide +kernel
theorem dL_law_321 : decode cL_law 321 = .ok (.invokevirtual 37, 3) := by decide +kernel
theorem dL_law_324 : decode cL_law 324 = .ok (.aload_n 2, 1) := by decide +kernel
theorem dL_law_325 : decode cL_law 325 = .ok (.aload_n 0, 1) := by decide +kernel
theorem dL_law_326 : decode cL_law 326 = .ok (.iload_n 3, 1) := by decide +kernel
theorem dL_law_327 : decode cL_law 327 = .ok (.iconst 1, 1) := by decide +kernel
theorem dL_law_328 : decode cL_law 328 = .ok (.iadd, 1) := by decide +kernel
theorem dL_law_329 : decode cL_law 329 = .ok (.iaload, 1) := by decide +kernel
theorem dL_law_330 : decode cL_law 330 = .ok (.invokevirtual 40, 3) := by decide +kernel
theorem dL_law_333 : decode cL_law 333 = .ok (.if_icmp .eq 526, 3) := by decide +kernel
theorem dL_law_336 : decode cL_law 336 = .ok (.iconst 0, 1) := by decide +kernel
theorem dL_law_337 : decode cL_law 337 = .ok (.ireturn, 1) := by decide +kernel
theorem dL_law_338 : decode cL_law 338 = .ok (.aload_n 1, 1) := by decide +kernel
theorem dL_law_339 : decode cL_law 339 = .ok (.aload_n 0, 1) := by decide +kernel
theorem dL_law_340 : decode cL_law 340 = .ok (.iload_n 3, 1) := by decide +kernel
theorem dL_law_341 : decode cL_law 341 = .ok (.iconst 1, 1) := by decide +kernel
theorem dL_law_342 : decode cL_law 342 = .ok (.iadd, 1) := by decide +kernel
theorem dL_law_343 : decode cL_law 343 = .ok (.iaload, 1) := by decide +kernel
theorem dL_law_344 : decode cL_law 344 = .ok (.invokevirtual 41, 3) := by decide +kernel
theorem dL_law_347 : decode cL_law 347 = .ok (.aload_n 2, 1) := by decide +kernel
theorem dL_law_348 : decode cL_law 348 = .ok (.aload_n 0, 1) := by decide +kernel
theorem dL_law_349 : decode cL_law 349 = .ok (.iload_n 3, 1) := by decide +kernel
theorem dL_law_350 : decode cL_law 350 = .ok (.iconst 1, 1) := by decide +kernel
theorem dL_law_351 : decode cL_law 351 = .ok (.iadd, 1) := by decide +kernel
theorem dL_law_352 : decode cL_law 352 = .ok (.iaload, 1) := by decide +kernel
theorem dL_law_353 : decode cL_law 353 = .ok (.invokevirtual 44, 3) := by decide +kernel
theorem dL_law_356 : decode cL_law 356 = .ok (.if_icmp .eq 503, 3) := by decide +kernel
theorem dL_law_359 : decode cL_law 359 = .ok (.iconst 0, 1) := by decide +kernel
theorem dL_law_360 : decode cL_law 360 = .ok (.ireturn, 1) := by decide +kernel
theorem dL_law_361 : decode cL_law 361 = .ok (.aload_n 1, 1) := by decide +kernel
theorem dL_law_362 : decode cL_law 362 = .ok (.aload_n 0, 1) := by decide +kernel
theorem dL_law_363 : decode cL_law 363 = .ok (.iload_n 3, 1) := by decide +kernel
theorem dL_law_364 : decode cL_law 364 = .ok (.iconst 1, 1) := by decide +kernel
theorem dL_law_365 : decode cL_law 365 = .ok (.iadd, 1) := by decide +kernel
theorem dL_law_366 : decode cL_law 366 = .ok (.iaload, 1) := by decide +kernel
theorem dL_law_367 : decode cL_law 367 = .ok (.aload_n 0, 1) := by decide +kernel
theorem dL_law_368 : decode cL_law 368 = .ok (.iload_n 3, 1) := by decide +kernel
theorem dL_law_369 : decode cL_law 369 = .ok (.iconst 2, 1) := by decide +kernel
theorem dL_law_370 : decode cL_law 370 = .ok (.iadd, 1) := by decide +kernel
theorem dL_law_371 : decode cL_law 371 = .ok (.iaload, 1) := by decide +kernel
theorem dL_law_372 : decode cL_law 372 = .ok (.aload_n 0, 1) := by decide +kernel
theorem dL_law_373 : decode cL_law 373 = .ok (.iload_n 3, 1) := by decide +kernel
theorem dL_law_374 : decode cL_law 374 = .ok (.iconst 3, 1) := by decide +kernel
theorem dL_law_375 : decode cL_law 375 = .ok (.iadd, 1) := by decide +kernel
theorem dL_law_376 : decode cL_law 376 = .ok (.iaload, 1) := by decide +kernel
theorem dL_law_377 : decode cL_law 377 = .ok (.aload_n 0, 1) := by decide +kernel
theorem dL_law_378 : decode cL_law 378 = .ok (.iload_n 3, 1) := by decide +kernel
theorem dL_law_379 : decode cL_law 379 = .ok (.iconst 4, 1) := by decide +kernel
theorem dL_law_380 : decode cL_law 380 = .ok (.iadd, 1) := by decide +kernel
theorem dL_law_381 : decode cL_law 381 = .ok (.iaload, 1) := by decide +kernel
theorem dL_law_382 : decode cL_law 382 = .ok (.invokevirtual 45, 3) := by decide +kernel
theorem dL_law_385 : decode cL_law 385 = .ok (.aload_n 2, 1) := by decide +kernel
theorem dL_law_386 : decode cL_law 386 = .ok (.aload_n 0, 1) := by decide +kernel
theorem dL_law_387 : decode cL_law 387 = .ok (.iload_n 3, 1) := by decide +kernel
theorem dL_law_388 : decode cL_law 388 = .ok (.iconst 1, 1) := by decide +kernel
theorem dL_law_389 : decode cL_law 389 = .ok (.iadd, 1) := by decide +kernel
theorem dL_law_390 : decode cL_law 390 = .ok (.iaload, 1) := by decide +kernel
theorem dL_law_391 : decode cL_law 391 = .ok (.aload_n 0, 1) := by decide +kernel
theorem dL_law_392 : decode cL_law 392 = .ok (.iload_n 3, 1) := by decide +kernel
theorem dL_law_393 : decode cL_law 393 = .ok (.iconst 2, 1) := by decide +kernel
theorem dL_law_394 : decode cL_law 394 = .ok (.iadd, 1) := by decide +kernel
theorem dL_law_395 : decode cL_law 395 = .ok (.iaload, 1) := by decide +kernel
theorem dL_law_396 : decode cL_law 396 = .ok (.aload_n 0, 1) := by decide +kernel
theorem dL_law_397 : decode cL_law 397 = .ok (.iload_n 3, 1) := by decide +kernel
theorem dL_law_398 : decode cL_law 398 = .ok (.iconst 3, 1) := by decide +kernel
theorem dL_law_399 : decode cL_law 399 = .ok (.iadd, 1) := by decide +kernel
theorem dL_law_400 : decode cL_law 400 = .ok (.iaload, 1) := by decide +kernel
theorem dL_law_401 : decode cL_law 401 = .ok (.aload_n 0, 1) := by decide +kernel
theorem dL_law_402 : decode cL_law 402 = .ok (.iload_n 3, 1) := by decide +kernel
theorem dL_law_403 : decode cL_law 403 = .ok (.iconst 4, 1) := by decide +kernel
theorem dL_law_404 : decode cL_law 404 = .ok (.iadd, 1) := by decide +kernel
theorem dL_law_405 : decode cL_law 405 = .ok (.iaload, 1) := by decide +kernel
theorem dL_law_406 : decode cL_law 406 = .ok (.invokevirtual 48, 3) := by decide +kernel
theorem dL_law_409 : decode cL_law 409 = .ok (.if_icmp .eq 450, 3) := by decide +kernel
theorem dL_law_412 : decode cL_law 412 = .ok (.iconst 0, 1) := by decide +kernel
theorem dL_law_413 : decode cL_law 413 = .ok (.ireturn, 1) := by decide +kernel
theorem dL_law_414 : decode cL_law 414 = .ok (.aload_n 1, 1) := by decide +kernel
theorem dL_law_415 : decode cL_law 415 = .ok (.aload_n 0, 1) := by decide +kernel
theorem dL_law_416 : decode cL_law 416 = .ok (.iload_n 3, 1) := by decide +kernel
theorem dL_law_417 : decode cL_law 417 = .ok (.iconst 1, 1) := by decide +kernel
theorem dL_law_418 : decode cL_law 418 = .ok (.iadd, 1) := by decide +kernel
theorem dL_law_419 : decode cL_law 419 = .ok (.iaload, 1) := by decide +kernel
theorem dL_law_420 : decode cL_law 420 = .ok (.aload_n 0, 1) := by decide +kernel
theorem dL_law_421 : decode cL_law 421 = .ok (.iload_n 3, 1) := by decide +kernel
theorem dL_law_422 : decode cL_law 422 = .ok (.iconst 2, 1) := by decide +kernel
theorem dL_law_423 : decode cL_law 423 = .ok (.iadd, 1) := by decide +kernel
theorem dL_law_424 : decode cL_law 424 = .ok (.iaload, 1) := by decide +kernel
theorem dL_law_425 : decode cL_law 425 = .ok (.invokevirtual 49, 3) := by decide +kernel
theorem dL_law_428 : decode cL_law 428 = .ok (.aload_n 2, 1) := by decide +kernel
theorem dL_law_429 : decode cL_law 429 = .ok (.aload_n 0, 1) := by decide +kernel
theorem dL_law_430 : decode cL_law 430 = .ok (.iload_n 3, 1) := by decide +kernel
theorem dL_law_431 : decode cL_law 431 = .ok (.iconst 1, 1) := by decide +kernel
theorem dL_law_432 : decode cL_law 432 = .ok (.iadd, 1) := by decide +kernel
theorem dL_law_433 : decode cL_law 433 = .ok (.iaload, 1) := by decide +kernel
theorem dL_law_434 : decode cL_law 434 = .ok (.aload_n 0, 1) := by decide +kernel
theorem dL_law_435 : decode cL_law 435 = .ok (.iload_n 3, 1) := by decide +kernel
theorem dL_law_436 : decode cL_law 436 = .ok (.iconst 2, 1) := by decide +kernel
theorem dL_law_437 : decode cL_law 437 = .ok (.iadd, 1) := by decide +kernel
theorem dL_law_438 : decode cL_law 438 = .ok (.iaload, 1) := by decide +kernel
theorem dL_law_439 : decode cL_law 439 = .ok (.invokevirtual 53, 3) := by decide +kernel
theorem dL_law_442 : decode cL_law 442 = .ok (.if_icmp .eq 417, 3) := by decide +kernel
theorem dL_law_445 : decode cL_law 445 = .ok (.iconst 0, 1) := by decide +kernel
theorem dL_law_446 : decode cL_law 446 = .ok (.ireturn, 1) := by decide +kernel
theorem dL_law_447 : decode cL_law 447 = .ok (.aload_n 1, 1) := by decide +kernel
theorem dL_law_448 : decode cL_law 448 = .ok (.aload_n 0, 1) := by decide +kernel
theorem dL_law_449 : decode cL_law 449 = .ok (.iload_n 3, 1) := by decide +kernel
theorem dL_law_450 : decode cL_law 450 = .ok (.iconst 1, 1) := by decide +kernel
theorem dL_law_451 : decode cL_law 451 = .ok (.iadd, 1) := by decide +kernel
theorem dL_law_452 : decode cL_law 452 = .ok (.iaload, 1) := by decide +kernel
theorem dL_law_453 : decode cL_law 453 = .ok (.aload_n 0, 1) := by decide +kernel
theorem dL_law_454 : decode cL_law 454 = .ok (.iload_n 3, 1) := by decide +kernel
theorem dL_law_455 : decode cL_law 455 = .ok (.iconst 2, 1) := by decide +kernel
theorem dL_law_456 : decode cL_law 456 = .ok (.iadd, 1) := by decide +kernel
theorem dL_law_457 : decode cL_law 457 = .ok (.iaload, 1) := by decide +kernel
theorem dL_law_458 : decode cL_law 458 = .ok (.invokevirtual 54, 3) := by decide +kernel
theorem dL_law_461 : decode cL_law 461 = .ok (.aload_n 2, 1) := by decide +kernel
theorem dL_law_462 : decode cL_law 462 = .ok (.aload_n 0, 1) := by decide +kernel
theorem dL_law_463 : decode cL_law 463 = .ok (.iload_n 3, 1) := by decide +kernel
theorem dL_law_464 : decode cL_law 464 = .ok (.iconst 1, 1) := by decide +kernel
theorem dL_law_465 : decode cL_law 465 = .ok (.iadd, 1) := by decide +kernel
theorem dL_law_466 : decode cL_law 466 = .ok (.iaload, 1) := by decide +kernel
theorem dL_law_467 : decode cL_law 467 = .ok (.aload_n 0, 1) := by decide +kernel
theorem dL_law_468 : decode cL_law 468 = .ok (.iload_n 3, 1) := by decide +kernel
theorem dL_law_469 : decode cL_law 469 = .ok (.iconst 2, 1) := by decide +kernel
theorem dL_law_470 : decode cL_law 470 = .ok (.iadd, 1) := by decide +kernel
theorem dL_law_471 : decode cL_law 471 = .ok (.iaload, 1) := by decide +kernel
theorem dL_law_472 : decode cL_law 472 = .ok (.invokevirtual 57, 3) := by decide +kernel
theorem dL_law_475 : decode cL_law 475 = .ok (.if_icmp .eq 384, 3) := by decide +kernel
theorem dL_law_478 : decode cL_law 478 = .ok (.iconst 0, 1) := by decide +kernel
theorem dL_law_479 : decode cL_law 479 = .ok (.ireturn, 1) := by decide +kernel
theorem dL_law_480 : decode cL_law 480 = .ok (.aload_n 1, 1) := by decide +kernel
theorem dL_law_481 : decode cL_law 481 = .ok (.aload_n 0, 1) := by decide +kernel
theorem dL_law_482 : decode cL_law 482 = .ok (.iload_n 3, 1) := by decide +kernel
theorem dL_law_483 : decode cL_law 483 = .ok (.iconst 1, 1) := by decide +kernel
theorem dL_law_484 : decode cL_law 484 = .ok (.iadd, 1) := by decide +kernel
theorem dL_law_485 : decode cL_law 485 = .ok (.iaload, 1) := by decide +kernel
theorem dL_law_486 : decode cL_law 486 = .ok (.aload_n 0, 1) := by decide +kernel
theorem dL_law_487 : decode cL_law 487 = .ok (.iload_n 3, 1) := by decide +kernel
theorem dL_law_488 : decode cL_law 488 = .ok (.iconst 2, 1) := by decide +kernel
theorem dL_law_489 : decode cL_law 489 = .ok (.iadd, 1) := by decide +kernel
theorem dL_law_490 : decode cL_law 490 = .ok (.iaload, 1) := by decide +kernel
theorem dL_law_491 : decode cL_law 491 = .ok (.invokevirtual 58, 3) := by decide +kernel
theorem dL_law_494 : decode cL_law 494 = .ok (.aload_n 2, 1) := by decide +kernel
theorem dL_law_495 : decode cL_law 495 = .ok (.aload_n 0, 1) := by decide +kernel
theorem dL_law_496 : decode cL_law 496 = .ok (.iload_n 3, 1) := by decide +kernel
theorem dL_law_497 : decode cL_law 497 = .ok (.iconst 1, 1) := by decide +kernel
theorem dL_law_498 : decode cL_law 498 = .ok (.iadd, 1) := by decide +kernel
theorem dL_law_499 : decode cL_law 499 = .ok (.iaload, 1) := by decide +kernel
theorem dL_law_500 : decode cL_law 500 = .ok (.aload_n 0, 1) := by decide +kernel
theorem dL_law_501 : decode cL_law 501 = .ok (.iload_n 3, 1) := by decide +kernel
theorem dL_law_502 : decode cL_law 502 = .ok (.iconst 2, 1) := by decide +kernel
theorem dL_law_503 : decode cL_law 503 = .ok (.iadd, 1) := by decide +kernel
theorem dL_law_504 : decode cL_law 504 = .ok (.iaload, 1) := by decide +kernel
theorem dL_law_505 : decode cL_law 505 = .ok (.invokevirtual 61, 3) := by decide +kernel
theorem dL_law_508 : decode cL_law 508 = .ok (.if_icmp .eq 351, 3) := by decide +kernel
theorem dL_law_511 : decode cL_law 511 = .ok (.iconst 0, 1) := by decide +kernel
theorem dL_law_512 : decode cL_law 512 = .ok (.ireturn, 1) := by decide +kernel
theorem dL_law_513 : decode cL_law 513 = .ok (.aload_n 1, 1) := by decide +kernel
theorem dL_law_514 : decode cL_law 514 = .ok (.aload_n 0, 1) := by decide +kernel
theorem dL_law_515 : decode cL_law 515 = .ok (.iload_n 3, 1) := by decide +kernel
theorem dL_law_516 : decode cL_law 516 = .ok (.iconst 1, 1) := by decide +kernel
theorem dL_law_517 : decode cL_law 517 = .ok (.iadd, 1) := by decide +kernel
theorem dL_law_518 : decode cL_law 518 = .ok (.iaload, 1) := by decide +kernel
theorem dL_law_519 : decode cL_law 519 = .ok (.aload_n 0, 1) := by decide +kernel
theorem dL_law_520 : decode cL_law 520 = .ok (.iload_n 3, 1) := by decide +kernel
theorem dL_law_521 : decode cL_law 521 = .ok (.iconst 2, 1) := by decide +kernel
theorem dL_law_522 : decode cL_law 522 = .ok (.iadd, 1) := by decide +kernel
theorem dL_law_523 : decode cL_law 523 = .ok (.iaload, 1) := by decide +kernel
theorem dL_law_524 : decode cL_law 524 = .ok (.invokevirtual 62, 3) := by decide +kernel
theorem dL_law_527 : decode cL_law 527 = .ok (.aload_n 2, 1) := by decide +kernel
theorem dL_law_528 : decode cL_law 528 = .ok (.aload_n 0, 1) := by decide +kernel
theorem dL_law_529 : decode cL_law 529 = .ok (.iload_n 3, 1) := by decide +kernel
theorem dL_law_530 : decode cL_law 530 = .ok (.iconst 1, 1) := by decide +kernel
theorem dL_law_531 : decode cL_law 531 = .ok (.iadd, 1) := by decide +kernel
theorem dL_law_532 : decode cL_law 532 = .ok (.iaload, 1) := by decide +kernel
theorem dL_law_533 : decode cL_law 533 = .ok (.aload_n 0, 1) := by decide +kernel
theorem dL_law_534 : decode cL_law 534 = .ok (.iload_n 3, 1) := by decide +kernel
theorem dL_law_535 : decode cL_law 535 = .ok (.iconst 2, 1) := by decide +kernel
theorem dL_law_536 : decode cL_law 536 = .ok (.iadd, 1) := by decide +kernel
theorem dL_law_537 : decode cL_law 537 = .ok (.iaload, 1) := by decide +kernel
theorem dL_law_538 : decode cL_law 538 = .ok (.invokevirtual 65, 3) := by decide +kernel
theorem dL_law_541 : decode cL_law 541 = .ok (.if_icmp .eq 318, 3) := by decide +kernel
theorem dL_law_544 : decode cL_law 544 = .ok (.iconst 0, 1) := by decide +kernel
theorem dL_law_545 : decode cL_law 545 = .ok (.ireturn, 1) := by decide +kernel
theorem dL_law_546 : decode cL_law 546 = .ok (.aload_n 1, 1) := by decide +kernel
theorem dL_law_547 : decode cL_law 547 = .ok (.aload_n 0, 1) := by decide +kernel
theorem dL_law_548 : decode cL_law 548 = .ok (.iload_n 3, 1) := by decide +kernel
theorem dL_law_549 : decode cL_law 549 = .ok (.iconst 1, 1) := by decide +kernel
theorem dL_law_550 : decode cL_law 550 = .ok (.iadd, 1) := by decide +kernel
theorem dL_law_551 : decode cL_law 551 = .ok (.iaload, 1) := by decide +kernel
theorem dL_law_552 : decode cL_law 552 = .ok (.invokevirtual 66, 3) := by decide +kernel
theorem dL_law_555 : decode cL_law 555 = .ok (.aload_n 2, 1) := by decide +kernel
theorem dL_law_556 : decode cL_law 556 = .ok (.aload_n 0, 1) := by decide +kernel
theorem dL_law_557 : decode cL_law 557 = .ok (.iload_n 3, 1) := by decide +kernel
theorem dL_law_558 : decode cL_law 558 = .ok (.iconst 1, 1) := by decide +kernel
theorem dL_law_559 : decode cL_law 559 = .ok (.iadd, 1) := by decide +kernel
theorem dL_law_560 : decode cL_law 560 = .ok (.iaload, 1) := by decide +kernel
theorem dL_law_561 : decode cL_law 561 = .ok (.invokevirtual 69, 3) := by decide +kernel
theorem dL_law_564 : decode cL_law 564 = .ok (.if_icmp .eq 295, 3) := by decide +kernel
theorem dL_law_567 : decode cL_law 567 = .ok (.iconst 0, 1) := by decide +kernel
theorem dL_law_568 : decode cL_law 568 = .ok (.ireturn, 1) := by decide +kernel
theorem dL_law_569 : decode cL_law 569 = .ok (.aload_n 1, 1) := by decide +kernel
theorem dL_law_570 : decode cL_law 570 = .ok (.aload_n 0, 1) := by decide +kernel
theorem dL_law_571 : decode cL_law 571 = .ok (.iload_n 3, 1) := by decide +kernel
theorem dL_law_572 : decode cL_law 572 = .ok (.iconst 1, 1) := by decide +kernel
theorem dL_law_573 : decode cL_law 573 = .ok (.iadd, 1) := by decide +kernel
theorem dL_law_574 : decode cL_law 574 = .ok (.iaload, 1) := by decide +kernel
theorem dL_law_575 : decode cL_law 575 = .ok (.aload_n 0, 1) := by decide +kernel
theorem dL_law_576 : decode cL_law 576 = .ok (.iload_n 3, 1) := by decide +kernel
theorem dL_law_577 : decode cL_law 577 = .ok (.iconst 2, 1) := by decide +kernel
theorem dL_law_578 : decode cL_law 578 = .ok (.iadd, 1) := by decide +kernel
theorem dL_law_579 : decode cL_law 579 = .ok (.iaload, 1) := by decide +kernel
theorem dL_law_580 : decode cL_law 580 = .ok (.invokevirtual 70, 3) := by decide +kernel
theorem dL_law_583 : decode cL_law 583 = .ok (.aload_n 2, 1) := by decide +kernel
theorem dL_law_584 : decode cL_law 584 = .ok (.aload_n 0, 1) := by decide +kernel
theorem dL_law_585 : decode cL_law 585 = .ok (.iload_n 3, 1) := by decide +kernel
theorem dL_law_586 : decode cL_law 586 = .ok (.iconst 1, 1) := by decide +kernel
theorem dL_law_587 : decode cL_law 587 = .ok (.iadd, 1) := by decide +kernel
theorem dL_law_588 : decode cL_law 588 = .ok (.iaload, 1) := by decide +kernel
theorem dL_law_589 : decode cL_law 589 = .ok (.aload_n 0, 1) := by decide +kernel
theorem dL_law_590 : decode cL_law 590 = .ok (.iload_n 3, 1) := by decide +kernel
theorem dL_law_591 : decode cL_law 591 = .ok (.iconst 2, 1) := by decide +kernel
theorem dL_law_592 : decode cL_law 592 = .ok (.iadd, 1) := by decide +kernel
theorem dL_law_593 : decode cL_law 593 = .ok (.iaload, 1) := by decide +kernel
theorem dL_law_594 : decode cL_law 594 = .ok (.invokevirtual 73, 3) := by decide +kernel
theorem dL_law_597 : decode cL_law 597 = .ok (.if_icmp .eq 262, 3) := by decide +kernel
theorem dL_law_600 : decode cL_law 600 = .ok (.iconst 0, 1) := by decide +kernel
theorem dL_law_601 : decode cL_law 601 = .ok (.ireturn, 1) := by decide +kernel
theorem dL_law_602 : decode cL_law 602 = .ok (.aload_n 1, 1) := by decide +kernel
theorem dL_law_603 : decode cL_law 603 = .ok (.aload_n 0, 1) := by decide +kernel
theorem dL_law_604 : decode cL_law 604 = .ok (.iload_n 3, 1) := by decide +kernel
theorem dL_law_605 : decode cL_law 605 = .ok (.iconst 1, 1) := by decide +kernel
theorem dL_law_606 : decode cL_law 606 = .ok (.iadd, 1) := by decide +kernel
theorem dL_law_607 : decode cL_law 607 = .ok (.iaload, 1) := by decide +kernel
theorem dL_law_608 : decode cL_law 608 = .ok (.aload_n 0, 1) := by decide +kernel
theorem dL_law_609 : decode cL_law 609 = .ok (.iload_n 3, 1) := by decide +kernel
theorem dL_law_610 : decode cL_law 610 = .ok (.iconst 2, 1) := by decide +kernel
theorem dL_law_611 : decode cL_law 611 = .ok (.iadd, 1) := by decide +kernel
theorem dL_law_612 : decode cL_law 612 = .ok (.iaload, 1) := by decide +kernel
theorem dL_law_613 : decode cL_law 613 = .ok (.invokevirtual 74, 3) := by decide +kernel
theorem dL_law_616 : decode cL_law 616 = .ok (.aload_n 2, 1) := by decide +kernel
theorem dL_law_617 : decode cL_law 617 = .ok (.aload_n 0, 1) := by decide +kernel
theorem dL_law_618 : decode cL_law 618 = .ok (.iload_n 3, 1) := by decide +kernel
theorem dL_law_619 : decode cL_law 619 = .ok (.iconst 1, 1) := by decide +kernel
theorem dL_law_620 : decode cL_law 620 = .ok (.iadd, 1) := by decide +kernel
theorem dL_law_621 : decode cL_law 621 = .ok (.iaload, 1) := by decide +kernel
theorem dL_law_622 : decode cL_law 622 = .ok (.aload_n 0, 1) := by decide +kernel
theorem dL_law_623 : decode cL_law 623 = .ok (.iload_n 3, 1) := by decide +kernel
theorem dL_law_624 : decode cL_law 624 = .ok (.iconst 2, 1) := by decide +kernel
theorem dL_law_625 : decode cL_law 625 = .ok (.iadd, 1) := by decide +kernel
theorem dL_law_626 : decode cL_law 626 = .ok (.iaload, 1) := by decide +kernel
theorem dL_law_627 : decode cL_law 627 = .ok (.invokevirtual 77, 3) := by decide +kernel
theorem dL_law_630 : decode cL_law 630 = .ok (.if_icmp .eq 229, 3) := by decide +kernel
theorem dL_law_633 : decode cL_law 633 = .ok (.iconst 0, 1) := by decide +kernel
theorem dL_law_634 : decode cL_law 634 = .ok (.ireturn, 1) := by decide +kernel
theorem dL_law_635 : decode cL_law 635 = .ok (.aload_n 1, 1) := by decide +kernel
theorem dL_law_636 : decode cL_law 636 = .ok (.aload_n 0, 1) := by decide +kernel
theorem dL_law_637 : decode cL_law 637 = .ok (.iload_n 3, 1) := by decide +kernel
theorem dL_law_638 : decode cL_law 638 = .ok (.iconst 1, 1) := by decide +kernel
theorem dL_law_639 : decode cL_law 639 = .ok (.iadd, 1) := by decide +kernel
theorem dL_law_640 : decode cL_law 640 = .ok (.iaload, 1) := by decide +kernel
theorem dL_law_641 : decode cL_law 641 = .ok (.aload_n 0, 1) := by decide +kernel
theorem dL_law_642 : decode cL_law 642 = .ok (.iload_n 3, 1) := by decide +kernel
theorem dL_law_643 : decode cL_law 643 = .ok (.iconst 2, 1) := by decide +kernel
theorem dL_law_644 : decode cL_law 644 = .ok (.iadd, 1) := by decide +kernel
theorem dL_law_645 : decode cL_law 645 = .ok (.iaload, 1) := by decide +kernel
theorem dL_law_646 : decode cL_law 646 = .ok (.aload_n 0, 1) := by decide +kernel
theorem dL_law_647 : decode cL_law 647 = .ok (.iload_n 3, 1) := by decide +kernel
theorem dL_law_648 : decode cL_law 648 = .ok (.iconst 3, 1) := by decide +kernel
theorem dL_law_649 : decode cL_law 649 = .ok (.iadd, 1) := by decide +kernel
theorem dL_law_650 : decode cL_law 650 = .ok (.iaload, 1) := by decide +kernel
theorem dL_law_651 : decode cL_law 651 = .ok (.invokevirtual 78, 3) := by decide +kernel
theorem dL_law_654 : decode cL_law 654 = .ok (.aload_n 2, 1) := by decide +kernel
theorem dL_law_655 : decode cL_law 655 = .ok (.aload_n 0, 1) := by decide +kernel
theorem dL_law_656 : decode cL_law 656 = .ok (.iload_n 3, 1) := by decide +kernel
theorem dL_law_657 : decode cL_law 657 = .ok (.iconst 1, 1) := by decide +kernel
theorem dL_law_658 : decode cL_law 658 = .ok (.iadd, 1) := by decide +kernel
theorem dL_law_659 : decode cL_law 659 = .ok (.iaload, 1) := by decide +kernel
theorem dL_law_660 : decode cL_law 660 = .ok (.aload_n 0, 1) := by decide +kernel
theorem dL_law_661 : decode cL_law 661 = .ok (.iload_n 3, 1) := by decide +kernel
theorem dL_law_662 : decode cL_law 662 = .ok (.iconst 2, 1) := by decide +kernel
theorem dL_law_663 : decode cL_law 663 = .ok (.iadd, 1) := by decide +kernel
theorem dL_law_664 : decode cL_law 664 = .ok (.iaload, 1) := by decide +kernel
theorem dL_law_665 : decode cL_law 665 = .ok (.aload_n 0, 1) := by decide +kernel
theorem dL_law_666 : decode cL_law 666 = .ok (.iload_n 3, 1) := by decide +kernel
theorem dL_law_667 : decode cL_law 667 = .ok (.iconst 3, 1) := by decide +kernel
theorem dL_law_668 : decode cL_law 668 = .ok (.iadd, 1) := by decide +kernel
theorem dL_law_669 : decode cL_law 669 = .ok (.iaload, 1) := by decide +kernel
theorem dL_law_670 : decode cL_law 670 = .ok (.invokevirtual 81, 3) := by decide +kernel
theorem dL_law_673 : decode cL_law 673 = .ok (.if_icmp .eq 186, 3) := by decide +kernel
theorem dL_law_676 : decode cL_law 676 = .ok (.iconst 0, 1) := by decide +kernel
theorem dL_law_677 : decode cL_law 677 = .ok (.ireturn, 1) := by decide +kernel
theorem dL_law_678 : decode cL_law 678 = .ok (.aload_n 1, 1) := by decide +kernel
theorem dL_law_679 : decode cL_law 679 = .ok (.aload_n 0, 1) := by decide +kernel
theorem dL_law_680 : decode cL_law 680 = .ok (.iload_n 3, 1) := by decide +kernel
theorem dL_law_681 : decode cL_law 681 = .ok (.iconst 1, 1) := by decide +kernel
theorem dL_law_682 : decode cL_law 682 = .ok (.iadd, 1) := by decide +kernel
theorem dL_law_683 : decode cL_law 683 = .ok (.iaload, 1) := by decide +kernel
theorem dL_law_684 : decode cL_law 684 = .ok (.aload_n 0, 1) := by decide +kernel
theorem dL_law_685 : decode cL_law 685 = .ok (.iload_n 3, 1) := by decide +kernel
theorem dL_law_686 : decode cL_law 686 = .ok (.iconst 2, 1) := by decide +kernel
theorem dL_law_687 : decode cL_law 687 = .ok (.iadd, 1) := by decide +kernel
theorem dL_law_688 : decode cL_law 688 = .ok (.iaload, 1) := by decide +kernel
theorem dL_law_689 : decode cL_law 689 = .ok (.invokevirtual 82, 3) := by decide +kernel
theorem dL_law_692 : decode cL_law 692 = .ok (.aload_n 2, 1) := by decide +kernel
theorem dL_law_693 : decode cL_law 693 = .ok (.aload_n 0, 1) := by decide +kernel
theorem dL_law_694 : decode cL_law 694 = .ok (.iload_n 3, 1) := by decide +kernel
theorem dL_law_695 : decode cL_law 695 = .ok (.iconst 1, 1) := by decide +kernel
theorem dL_law_696 : decode cL_law 696 = .ok (.iadd, 1) := by decide +kernel
theorem dL_law_697 : decode cL_law 697 = .ok (.iaload, 1) := by decide +kernel
theorem dL_law_698 : decode cL_law 698 = .ok (.aload_n 0, 1) := by decide +kernel
theorem dL_law_699 : decode cL_law 699 = .ok (.iload_n 3, 1) := by decide +kernel
theorem dL_law_700 : decode cL_law 700 = .ok (.iconst 2, 1) := by decide +kernel
theorem dL_law_701 : decode cL_law 701 = .ok (.iadd, 1) := by decide +kernel
theorem dL_law_702 : decode cL_law 702 = .ok (.iaload, 1) := by decide +kernel
theorem dL_law_703 : decode cL_law 703 = .ok (.invokevirtual 85, 3) := by decide +kernel
theorem dL_law_706 : decode cL_law 706 = .ok (.if_icmp .eq 153, 3) := by decide +kernel
theorem dL_law_709 : decode cL_law 709 = .ok (.iconst 0, 1) := by decide +kernel
theorem dL_law_710 : decode cL_law 710 = .ok (.ireturn, 1) := by decide +kernel
theorem dL_law_711 : decode cL_law 711 = .ok (.aload_n 1, 1) := by decide +kernel
theorem dL_law_712 : decode cL_law 712 = .ok (.aload_n 0, 1) := by decide +kernel
theorem dL_law_713 : decode cL_law 713 = .ok (.iload_n 3, 1) := by decide +kernel
theorem dL_law_714 : decode cL_law 714 = .ok (.iconst 1, 1) := by decide +kernel
theorem dL_law_715 : decode cL_law 715 = .ok (.iadd, 1) := by decide +kernel
theorem dL_law_716 : decode cL_law 716 = .ok (.iaload, 1) := by decide +kernel
theorem dL_law_717 : decode cL_law 717 = .ok (.aload_n 0, 1) := by decide +kernel
theorem dL_law_718 : decode cL_law 718 = .ok (.iload_n 3, 1) := by decide +kernel
theorem dL_law_719 : decode cL_law 719 = .ok (.iconst 2, 1) := by decide +kernel
theorem dL_law_720 : decode cL_law 720 = .ok (.iadd, 1) := by decide +kernel
theorem dL_law_721 : decode cL_law 721 = .ok (.iaload, 1) := by decide +kernel
theorem dL_law_722 : decode cL_law 722 = .ok (.invokevirtual 86, 3) := by decide +kernel
theorem dL_law_725 : decode cL_law 725 = .ok (.aload_n 2, 1) := by decide +kernel
theorem dL_law_726 : decode cL_law 726 = .ok (.aload_n 0, 1) := by decide +kernel
theorem dL_law_727 : decode cL_law 727 = .ok (.iload_n 3, 1) := by decide +kernel
theorem dL_law_728 : decode cL_law 728 = .ok (.iconst 1, 1) := by decide +kernel
theorem dL_law_729 : decode cL_law 729 = .ok (.iadd, 1) := by decide +kernel
theorem dL_law_730 : decode cL_law 730 = .ok (.iaload, 1) := by decide +kernel
theorem dL_law_731 : decode cL_law 731 = .ok (.aload_n 0, 1) := by decide +kernel
theorem dL_law_732 : decode cL_law 732 = .ok (.iload_n 3, 1) := by decide +kernel
theorem dL_law_733 : decode cL_law 733 = .ok (.iconst 2, 1) := by decide +kernel
theorem dL_law_734 : decode cL_law 734 = .ok (.iadd, 1) := by decide +kernel
theorem dL_law_735 : decode cL_law 735 = .ok (.iaload, 1) := by decide +kernel
theorem dL_law_736 : decode cL_law 736 = .ok (.invokevirtual 89, 3) := by decide +kernel
theorem dL_law_739 : decode cL_law 739 = .ok (.if_icmp .eq 120, 3) := by decide +kernel
theorem dL_law_742 : decode cL_law 742 = .ok (.iconst 0, 1) := by decide +kernel
theorem dL_law_743 : decode cL_law 743 = .ok (.ireturn, 1) := by decide +kernel
theorem dL_law_744 : decode cL_law 744 = .ok (.aload_n 1, 1) := by decide +kernel
theorem dL_law_745 : decode cL_law 745 = .ok (.aload_n 0, 1) := by decide +kernel
theorem dL_law_746 : decode cL_law 746 = .ok (.iload_n 3, 1) := by decide +kernel
theorem dL_law_747 : decode cL_law 747 = .ok (.iconst 1, 1) := by decide +kernel
theorem dL_law_748 : decode cL_law 748 = .ok (.iadd, 1) := by decide +kernel
theorem dL_law_749 : decode cL_law 749 = .ok (.iaload, 1) := by decide +kernel
theorem dL_law_750 : decode cL_law 750 = .ok (.invokevirtual 90, 3) := by decide +kernel
theorem dL_law_753 : decode cL_law 753 = .ok (.aload_n 2, 1) := by decide +kernel
theorem dL_law_754 : decode cL_law 754 = .ok (.aload_n 0, 1) := by decide +kernel
theorem dL_law_755 : decode cL_law 755 = .ok (.iload_n 3, 1) := by decide +kernel
theorem dL_law_756 : decode cL_law 756 = .ok (.iconst 1, 1) := by decide +kernel
theorem dL_law_757 : decode cL_law 757 = .ok (.iadd, 1) := by decide +kernel
theorem dL_law_758 : decode cL_law 758 = .ok (.iaload, 1) := by decide +kernel
theorem dL_law_759 : decode cL_law 759 = .ok (.invokevirtual 93, 3) := by decide +kernel
theorem dL_law_762 : decode cL_law 762 = .ok (.if_icmp .eq 97, 3) := by decide +kernel
theorem dL_law_765 : decode cL_law 765 = .ok (.iconst 0, 1) := by decide +kernel
theorem dL_law_766 : decode cL_law 766 = .ok (.ireturn, 1) := by decide +kernel
theorem dL_law_767 : decode cL_law 767 = .ok (.aload_n 1, 1) := by decide +kernel
theorem dL_law_768 : decode cL_law 768 = .ok (.aload_n 0, 1) := by decide +kernel
theorem dL_law_769 : decode cL_law 769 = .ok (.iload_n 3, 1) := by decide +kernel
theorem dL_law_770 : decode cL_law 770 = .ok (.iconst 1, 1) := by decide +kernel
theorem dL_law_771 : decode cL_law 771 = .ok (.iadd, 1) := by decide +kernel
theorem dL_law_772 : decode cL_law 772 = .ok (.iaload, 1) := by decide +kernel
theorem dL_law_773 : decode cL_law 773 = .ok (.aload_n 0, 1) := by decide +kernel
theorem dL_law_774 : decode cL_law 774 = .ok (.iload_n 3, 1) := by decide +kernel
theorem dL_law_775 : decode cL_law 775 = .ok (.iconst 2, 1) := by decide +kernel
theorem dL_law_776 : decode cL_law 776 = .ok (.iadd, 1) := by decide +kernel
theorem dL_law_777 : decode cL_law 777 = .ok (.iaload, 1) := by decide +kernel
theorem dL_law_778 : decode cL_law 778 = .ok (.invokevirtual 94, 3) := by decide +kernel
theorem dL_law_781 : decode cL_law 781 = .ok (.aload_n 2, 1) := by decide +kernel
theorem dL_law_782 : decode cL_law 782 = .ok (.aload_n 0, 1) := by decide +kernel
theorem dL_law_783 : decode cL_law 783 = .ok (.iload_n 3, 1) := by decide +kernel
theorem dL_law_784 : decode cL_law 784 = .ok (.iconst 1, 1) := by decide +kernel
theorem dL_law_785 : decode cL_law 785 = .ok (.iadd, 1) := by decide +kernel
theorem dL_law_786 : decode cL_law 786 = .ok (.iaload, 1) := by decide +kernel
theorem dL_law_787 : decode cL_law 787 = .ok (.aload_n 0, 1) := by decide +kernel
theorem dL_law_788 : decode cL_law 788 = .ok (.iload_n 3, 1) := by decide +kernel
theorem dL_law_789 : decode cL_law 789 = .ok (.iconst 2, 1) := by decide +kernel
theorem dL_law_790 : decode cL_law 790 = .ok (.iadd, 1) := by decide +kernel
theorem dL_law_791 : decode cL_law 791 = .ok (.iaload, 1) := by decide +kernel
theorem dL_law_792 : decode cL_law 792 = .ok (.invokevirtual 97, 3) := by decide +kernel
theorem dL_law_795 : decode cL_law 795 = .ok (.if_icmp .eq 64, 3) := by decide +kernel
theorem dL_law_798 : decode cL_law 798 = .ok (.iconst 0, 1) := by decide +kernel
theorem dL_law_799 : decode cL_law 799 = .ok (.ireturn, 1) := by decide +kernel
theorem dL_law_800 : decode cL_law 800 = .ok (.aload_n 1, 1) := by decide +kernel
theorem dL_law_801 : decode cL_law 801 = .ok (.aload_n 0, 1) := by decide +kernel
theorem dL_law_802 : decode cL_law 802 = .ok (.iload_n 3, 1) := by decide +kernel
theorem dL_law_803 : decode cL_law 803 = .ok (.iconst 1, 1) := by decide +kernel
theorem dL_law_804 : decode cL_law 804 = .ok (.iadd, 1) := by decide +kernel
theorem dL_law_805 : decode cL_law 805 = .ok (.iaload, 1) := by decide +kernel
theorem dL_law_806 : decode cL_law 806 = .ok (.invokevirtual 98, 3) := by decide +kernel
theorem dL_law_809 : decode cL_law 809 = .ok (.aload_n 2, 1) := by decide +kernel
theorem dL_law_810 : decode cL_law 810 = .ok (.aload_n 0, 1) := by decide +kernel
theorem dL_law_811 : decode cL_law 811 = .ok (.iload_n 3, 1) := by decide +kernel
theorem dL_law_812 : decode cL_law 812 = .ok (.iconst 1, 1) := by decide +kernel
theorem dL_law_813 : decode cL_law 813 = .ok (.iadd, 1) := by decide +kernel
theorem dL_law_814 : decode cL_law 814 = .ok (.iaload, 1) := by decide +kernel
theorem dL_law_815 : decode cL_law 815 = .ok (.invokevirtual 101, 3) := by decide +kernel
theorem dL_law_818 : decode cL_law 818 = .ok (.if_icmp .eq 41, 3) := by decide +kernel
theorem dL_law_821 : decode cL_law 821 = .ok (.iconst 0, 1) := by decide +kernel
theorem dL_law_822 : decode cL_law 822 = .ok (.ireturn, 1) := by decide +kernel
theorem dL_law_823 : decode cL_law 823 = .ok (.aload_n 1, 1) := by decide +kernel
theorem dL_law_824 : decode cL_law 824 = .ok (.invokevirtual 102, 3) := by decide +kernel
theorem dL_law_827 : decode cL_law 827 = .ok (.aload_n 2, 1) := by decide +kernel
theorem dL_law_828 : decode cL_law 828 = .ok (.invokevirtual 105, 3) := by decide +kernel
theorem dL_law_831 : decode cL_law 831 = .ok (.if_icmp .eq 28, 3) := by decide +kernel
theorem dL_law_834 : decode cL_law 834 = .ok (.iconst 0, 1) := by decide +kernel
theorem dL_law_835 : decode cL_law 835 = .ok (.ireturn, 1) := by decide +kernel
theorem dL_law_836 : decode cL_law 836 = .ok (.aload_n 1, 1) := by decide +kernel
theorem dL_law_837 : decode cL_law 837 = .ok (.aload_n 0, 1) := by decide +kernel
theorem dL_law_838 : decode cL_law 838 = .ok (.iload_n 3, 1) := by decide +kernel
theorem dL_law_839 : decode cL_law 839 = .ok (.iconst 1, 1) := by decide +kernel
theorem dL_law_840 : decode cL_law 840 = .ok (.iadd, 1) := by decide +kernel
theorem dL_law_841 : decode cL_law 841 = .ok (.iaload, 1) := by decide +kernel
theorem dL_law_842 : decode cL_law 842 = .ok (.invokevirtual 106, 3) := by decide +kernel
theorem dL_law_845 : decode cL_law 845 = .ok (.aload_n 2, 1) := by decide +kernel
theorem dL_law_846 : decode cL_law 846 = .ok (.aload_n 0, 1) := by decide +kernel
theorem dL_law_847 : decode cL_law 847 = .ok (.iload_n 3, 1) := by decide +kernel
theorem dL_law_848 : decode cL_law 848 = .ok (.iconst 1, 1) := by decide +kernel
theorem dL_law_849 : decode cL_law 849 = .ok (.iadd, 1) := by decide +kernel
theorem dL_law_850 : decode cL_law 850 = .ok (.iaload, 1) := by decide +kernel
theorem dL_law_851 : decode cL_law 851 = .ok (.invokevirtual 109, 3) := by decide +kernel
theorem dL_law_854 : decode cL_law 854 = .ok (.if_icmp .eq 5, 3) := by decide +kernel
theorem dL_law_857 : decode cL_law 857 = .ok (.iconst 0, 1) := by decide +kernel
theorem dL_law_858 : decode cL_law 858 = .ok (.ireturn, 1) := by decide +kernel
theorem dL_law_859 : decode cL_law 859 = .ok (.iinc 3 5, 3) := by decide +kernel
theorem dL_law_862 : decode cL_law 862 = .ok (.goto (-844), 3) := by decide +kernel
theorem dL_law_865 : decode cL_law 865 = .ok (.iconst 1, 1) := by decide +kernel
theorem dL_law_866 : decode cL_law 866 = .ok (.ireturn, 1) := by decide +kernel
end
section
/-! the words of the tables that every method may use: one list for all contracts -/
def W0 : List Cond := lw_tbl.filter goodWord
theorem W0_of {w : Cond} (h : w ∈ lw_tbl) (g : goodWord w = true) : w ∈ W0 := List.mem_filter.mpr ⟨h, g⟩
theorem W0_in {w : Cond} (h : w ∈ W0) : w ∈ lw_tbl := (List.mem_filter.mp h).1
theorem W0_gd {w : Cond} (h : w ∈ W0) : goodWord w = true := (List.mem_filter.mp h).2
theorem lwt_s {w : Cond} (h : w ∈ k2_sels lw_privs) : w ∈ lw_tbl := List.mem_append_left _ h
theorem lwt_1 {w : Cond} (h : w ∈ tables_1_1) : w ∈ lw_tbl := List.mem_append_right _ (List.mem_append_left _ h)
theorem lwt_2 {w : Cond} (h : w ∈ tables_1_2) : w ∈ lw_tbl := List.mem_append_right _ (List.mem_append_right _ (List.mem_append_left _ h))
theorem lwt_3 {w : Cond} (h : w ∈ tables_1_3) : w ∈ lw_tbl := List.mem_append_right _ (List.mem_append_right _ (List.mem_append_right _ (List.mem_append_left _ h)))
theorem lwt_4 {w : Cond} (h : w ∈ tables_1_4) : w ∈ lw_tbl := List.mem_append_right _ (List.mem_append_right _ (List.mem_append_right _ (List.mem_append_right _ h)))
theorem kws_0 : Cond.selects "CodeQuiz" ({ cls := "CodeQuiz", name := "programAt", desc := "(I)LCodeQuiz$Program;" } : MethodName) ({ cls := "CodeQuiz", name := "programAt", desc := "(I)LCodeQuiz$Program;" } : MethodName) ∈ W0 := W0_of (lwt_s (List.mem_of_getElem? (i := 0) (by decide +kernel))) rfl
theorem kws_1 : Cond.selects "CodeQuiz$Program" ({ cls := "CodeQuiz$Program", name := "isWhole", desc := "()Z" } : MethodName) ({ cls := "CodeQuiz$Program", name := "isWhole", desc := "()Z" } : MethodName) ∈ W0 := W0_of (lwt_s (List.mem_of_getElem? (i := 1) (by decide +kernel))) rfl
theorem kws_2 : Cond.selects "CodeQuiz$Program" ({ cls := "CodeQuiz$Program", name := "append", desc := "(III)I" } : MethodName) ({ cls := "CodeQuiz$Program", name := "append", desc := "(III)I" } : MethodName) ∈ W0 := W0_of (lwt_s (List.mem_of_getElem? (i := 2) (by decide +kernel))) rfl
theorem kws_3 : Cond.selects "CodeQuiz$Program" ({ cls := "CodeQuiz$Program", name := "hasLine", desc := "(I)Z" } : MethodName) ({ cls := "CodeQuiz$Program", name := "hasLine", desc := "(I)Z" } : MethodName) ∈ W0 := W0_of (lwt_s (List.mem_of_getElem? (i := 3) (by decide +kernel))) rfl
theorem kws_4 : Cond.selects "CodeQuiz$Machine" ({ cls := "CodeQuiz$Machine", name := "perform", desc := "(LCodeQuiz$Program;II)V" } : MethodName) ({ cls := "CodeQuiz$Machine", name := "perform", desc := "(LCodeQuiz$Program;II)V" } : MethodName) ∈ W0 := W0_of (lwt_s (List.mem_of_getElem? (i := 4) (by decide +kernel))) rfl
theorem kws_5 : Cond.selects "CodeQuiz$Machine" ({ cls := "CodeQuiz$Machine", name := "begin", desc := "(I)V" } : MethodName) ({ cls := "CodeQuiz$Machine", name := "begin", desc := "(I)V" } : MethodName) ∈ W0 := W0_of (lwt_s (List.mem_of_getElem? (i := 5) (by decide +kernel))) rfl
theorem kws_6 : Cond.selects "CodeQuiz$Machine" ({ cls := "CodeQuiz$Machine", name := "doLine", desc := "(LCodeQuiz$Program;I)I" } : MethodName) ({ cls := "CodeQuiz$Machine", name := "doLine", desc := "(LCodeQuiz$Program;I)I" } : MethodName) ∈ W0 := W0_of (lwt_s (List.mem_of_getElem? (i := 6) (by decide +kernel))) rfl
theorem kws_7 : Cond.selects "CodeQuiz$Machine" ({ cls := "CodeQuiz$Machine", name := "has", desc := "(I)Z" } : MethodName) ({ cls := "CodeQuiz$Machine", name := "has", desc := "(I)Z" } : MethodName) ∈ W0 := W0_of (lwt_s (List.mem_of_getElem? (i := 7) (by decide +kernel))) rfl
theorem kws_8 : Cond.selects "CodeQuiz$Machine" ({ cls := "CodeQuiz$Machine", name := "enterLoop", desc := "(IIZ)Z" } : MethodName) ({ cls := "CodeQuiz$Machine", name := "enterLoop", desc := "(IIZ)Z" } : MethodName) ∈ W0 := W0_of (lwt_s (List.mem_of_getElem? (i := 8) (by decide +kernel))) rfl
theorem kws_9 : Cond.selects "CodeQuiz$Machine" ({ cls := "CodeQuiz$Machine", name := "isLess", desc := "(IIZ)Z" } : MethodName) ({ cls := "CodeQuiz$Machine", name := "isLess", desc := "(IIZ)Z" } : MethodName) ∈ W0 := W0_of (lwt_s (List.mem_of_getElem? (i := 9) (by decide +kernel))) rfl
theorem kws_10 : Cond.selects "CodeQuiz$Machine" ({ cls := "CodeQuiz$Machine", name := "goesRound", desc := "(LCodeQuiz$Program;I)Z" } : MethodName) ({ cls := "CodeQuiz$Machine", name := "goesRound", desc := "(LCodeQuiz$Program;I)Z" } : MethodName) ∈ W0 := W0_of (lwt_s (List.mem_of_getElem? (i := 10) (by decide +kernel))) rfl
theorem kws_11 : Cond.selects "CodeQuiz$Machine" ({ cls := "CodeQuiz$Machine", name := "placeOf", desc := "(II)I" } : MethodName) ({ cls := "CodeQuiz$Machine", name := "placeOf", desc := "(II)I" } : MethodName) ∈ W0 := W0_of (lwt_s (List.mem_of_getElem? (i := 11) (by decide +kernel))) rfl
theorem kws_12 : Cond.selects "CodeQuiz$Machine" ({ cls := "CodeQuiz$Machine", name := "doShare", desc := "(IIZ)V" } : MethodName) ({ cls := "CodeQuiz$Machine", name := "doShare", desc := "(IIZ)V" } : MethodName) ∈ W0 := W0_of (lwt_s (List.mem_of_getElem? (i := 12) (by decide +kernel))) rfl
theorem kws_13 : Cond.selects "CodeQuiz$Machine" ({ cls := "CodeQuiz$Machine", name := "cellOf", desc := "(I)I" } : MethodName) ({ cls := "CodeQuiz$Machine", name := "cellOf", desc := "(I)I" } : MethodName) ∈ W0 := W0_of (lwt_s (List.mem_of_getElem? (i := 13) (by decide +kernel))) rfl
theorem kws_14 : Cond.selects "CodeQuiz$Machine" ({ cls := "CodeQuiz$Machine", name := "namesShare", desc := "()Z" } : MethodName) ({ cls := "CodeQuiz$Machine", name := "namesShare", desc := "()Z" } : MethodName) ∈ W0 := W0_of (lwt_s (List.mem_of_getElem? (i := 14) (by decide +kernel))) rfl
theorem kws_15 : Cond.selects "CodeQuiz" ({ cls := "CodeQuiz", name := "questionAt", desc := "(I)LCodeQuiz$Question;" } : MethodName) ({ cls := "CodeQuiz", name := "questionAt", desc := "(I)LCodeQuiz$Question;" } : MethodName) ∈ W0 := W0_of (lwt_s (List.mem_of_getElem? (i := 15) (by decide +kernel))) rfl
theorem kws_16 : Cond.selects "CodeQuiz" ({ cls := "CodeQuiz", name := "answerBy", desc := "(LCodeQuiz$Question;I)I" } : MethodName) ({ cls := "CodeQuiz", name := "answerBy", desc := "(LCodeQuiz$Question;I)I" } : MethodName) ∈ W0 := W0_of (lwt_s (List.mem_of_getElem? (i := 16) (by decide +kernel))) rfl
theorem kws_17 : Cond.selects "CodeQuiz$Question" ({ cls := "CodeQuiz$Question", name := "knows", desc := "(I)Z" } : MethodName) ({ cls := "CodeQuiz$Question", name := "knows", desc := "(I)Z" } : MethodName) ∈ W0 := W0_of (lwt_s (List.mem_of_getElem? (i := 17) (by decide +kernel))) rfl
theorem kws_18 : Cond.selects "CodeQuiz$Machine" ({ cls := "CodeQuiz$Machine", name := "answerTo", desc := "(II)I" } : MethodName) ({ cls := "CodeQuiz$Machine", name := "answerTo", desc := "(II)I" } : MethodName) ∈ W0 := W0_of (lwt_s (List.mem_of_getElem? (i := 18) (by decide +kernel))) rfl
theorem kws_19 : Cond.selects "CodeQuiz$Question" ({ cls := "CodeQuiz$Question", name := "keep", desc := "(II)V" } : MethodName) ({ cls := "CodeQuiz$Question", name := "keep", desc := "(II)V" } : MethodName) ∈ W0 := W0_of (lwt_s (List.mem_of_getElem? (i := 19) (by decide +kernel))) rfl
theorem kws_20 : Cond.selects "CodeQuiz" ({ cls := "CodeQuiz", name := "listChoices", desc := "(LCodeQuiz$Question;)I" } : MethodName) ({ cls := "CodeQuiz", name := "listChoices", desc := "(LCodeQuiz$Question;)I" } : MethodName) ∈ W0 := W0_of (lwt_s (List.mem_of_getElem? (i := 20) (by decide +kernel))) rfl
theorem kws_21 : Cond.selects "CodeQuiz" ({ cls := "CodeQuiz", name := "isListed", desc := "(II)Z" } : MethodName) ({ cls := "CodeQuiz", name := "isListed", desc := "(II)Z" } : MethodName) ∈ W0 := W0_of (lwt_s (List.mem_of_getElem? (i := 21) (by decide +kernel))) rfl
theorem kws_22 : Cond.selects "CodeQuiz" ({ cls := "CodeQuiz", name := "findFillings", desc := "(LCodeQuiz$Program;I)J" } : MethodName) ({ cls := "CodeQuiz", name := "findFillings", desc := "(LCodeQuiz$Program;I)J" } : MethodName) ∈ W0 := W0_of (lwt_s (List.mem_of_getElem? (i := 22) (by decide +kernel))) rfl
theorem kws_23 : Cond.selects "CodeQuiz" ({ cls := "CodeQuiz", name := "fillingsThatEndAlike", desc := "(LCodeQuiz$Program;IIJ)J" } : MethodName) ({ cls := "CodeQuiz", name := "fillingsThatEndAlike", desc := "(LCodeQuiz$Program;IIJ)J" } : MethodName) ∈ W0 := W0_of (lwt_s (List.mem_of_getElem? (i := 23) (by decide +kernel))) rfl
theorem kws_24 : Cond.selects "CodeQuiz$Machine" ({ cls := "CodeQuiz$Machine", name := "endsLike", desc := "(LCodeQuiz$Machine;)Z" } : MethodName) ({ cls := "CodeQuiz$Machine", name := "endsLike", desc := "(LCodeQuiz$Machine;)Z" } : MethodName) ∈ W0 := W0_of (lwt_s (List.mem_of_getElem? (i := 24) (by decide +kernel))) rfl
theorem kws_25 : Cond.selects "CodeQuiz$Machine" ({ cls := "CodeQuiz$Machine", name := "endsWithVariablesOf", desc := "(LCodeQuiz$Machine;)Z" } : MethodName) ({ cls := "CodeQuiz$Machine", name := "endsWithVariablesOf", desc := "(LCodeQuiz$Machine;)Z" } : MethodName) ∈ W0 := W0_of (lwt_s (List.mem_of_getElem? (i := 25) (by decide +kernel))) rfl
theorem kws_26 : Cond.selects "CodeQuiz$Pupil" ({ cls := "CodeQuiz$Pupil", name := "note", desc := "(II)I" } : MethodName) ({ cls := "CodeQuiz$Pupil", name := "note", desc := "(II)I" } : MethodName) ∈ W0 := W0_of (lwt_s (List.mem_of_getElem? (i := 26) (by decide +kernel))) rfl
theorem kws_27 : Cond.selects "CodeQuiz" ({ cls := "CodeQuiz", name := "costOf", desc := "(LCodeQuiz$Pupil;I)I" } : MethodName) ({ cls := "CodeQuiz", name := "costOf", desc := "(LCodeQuiz$Pupil;I)I" } : MethodName) ∈ W0 := W0_of (lwt_s (List.mem_of_getElem? (i := 27) (by decide +kernel))) rfl
theorem kws_28 : Cond.selects "CodeQuiz$Pupil" ({ cls := "CodeQuiz$Pupil", name := "hasAnswered", desc := "(I)Z" } : MethodName) ({ cls := "CodeQuiz$Pupil", name := "hasAnswered", desc := "(I)Z" } : MethodName) ∈ W0 := W0_of (lwt_s (List.mem_of_getElem? (i := 28) (by decide +kernel))) rfl
theorem kws_29 : Cond.selects "CodeQuiz" ({ cls := "CodeQuiz", name := "findSets", desc := "(LCodeQuiz$Pupil;)J" } : MethodName) ({ cls := "CodeQuiz", name := "findSets", desc := "(LCodeQuiz$Pupil;)J" } : MethodName) ∈ W0 := W0_of (lwt_s (List.mem_of_getElem? (i := 29) (by decide +kernel))) rfl
theorem kws_30 : Cond.selects "CodeQuiz" ({ cls := "CodeQuiz", name := "listSetAnswers", desc := "(LCodeQuiz$Question;J)I" } : MethodName) ({ cls := "CodeQuiz", name := "listSetAnswers", desc := "(LCodeQuiz$Question;J)I" } : MethodName) ∈ W0 := W0_of (lwt_s (List.mem_of_getElem? (i := 30) (by decide +kernel))) rfl
theorem kws_31 : Cond.selects "CodeQuiz" ({ cls := "CodeQuiz", name := "mostAlike", desc := "(I)I" } : MethodName) ({ cls := "CodeQuiz", name := "mostAlike", desc := "(I)I" } : MethodName) ∈ W0 := W0_of (lwt_s (List.mem_of_getElem? (i := 31) (by decide +kernel))) rfl
theorem kws_32 : Cond.selects "CodeQuiz" ({ cls := "CodeQuiz", name := "pairsParted", desc := "(LCodeQuiz$Question;)I" } : MethodName) ({ cls := "CodeQuiz", name := "pairsParted", desc := "(LCodeQuiz$Question;)I" } : MethodName) ∈ W0 := W0_of (lwt_s (List.mem_of_getElem? (i := 32) (by decide +kernel))) rfl
theorem kws_33 : Cond.selects "CodeQuiz" ({ cls := "CodeQuiz", name := "partsAll", desc := "(I)Z" } : MethodName) ({ cls := "CodeQuiz", name := "partsAll", desc := "(I)Z" } : MethodName) ∈ W0 := W0_of (lwt_s (List.mem_of_getElem? (i := 33) (by decide +kernel))) rfl
theorem kws_34 : Cond.selects "CodeQuizModel" ({ cls := "CodeQuizModel", name := "isProgram", desc := "(I)Z" } : MethodName) ({ cls := "CodeQuizModel", name := "isProgram", desc := "(I)Z" } : MethodName) ∈ W0 := W0_of (lwt_s (List.mem_of_getElem? (i := 34) (by decide +kernel))) rfl
theorem kws_35 : Cond.selects "CodeQuizModel" ({ cls := "CodeQuizModel", name := "openAhead", desc := "(II)I" } : MethodName) ({ cls := "CodeQuizModel", name := "openAhead", desc := "(II)I" } : MethodName) ∈ W0 := W0_of (lwt_s (List.mem_of_getElem? (i := 35) (by decide +kernel))) rfl
theorem kws_36 : Cond.selects "CodeQuizModel" ({ cls := "CodeQuizModel", name := "isWhole", desc := "(I)Z" } : MethodName) ({ cls := "CodeQuizModel", name := "isWhole", desc := "(I)Z" } : MethodName) ∈ W0 := W0_of (lwt_s (List.mem_of_getElem? (i := 36) (by decide +kernel))) rfl
theorem kws_37 : Cond.selects "CodeQuizModel" ({ cls := "CodeQuizModel", name := "runLines", desc := "(IIIII)V" } : MethodName) ({ cls := "CodeQuizModel", name := "runLines", desc := "(IIIII)V" } : MethodName) ∈ W0 := W0_of (lwt_s (List.mem_of_getElem? (i := 37) (by decide +kernel))) rfl
theorem kws_38 : Cond.selects "CodeQuizModel" ({ cls := "CodeQuizModel", name := "doLine", desc := "(IIII)I" } : MethodName) ({ cls := "CodeQuizModel", name := "doLine", desc := "(IIII)I" } : MethodName) ∈ W0 := W0_of (lwt_s (List.mem_of_getElem? (i := 38) (by decide +kernel))) rfl
theorem kws_39 : Cond.selects "CodeQuizModel" ({ cls := "CodeQuizModel", name := "endOf", desc := "(II)I" } : MethodName) ({ cls := "CodeQuizModel", name := "endOf", desc := "(II)I" } : MethodName) ∈ W0 := W0_of (lwt_s (List.mem_of_getElem? (i := 39) (by decide +kernel))) rfl
theorem kws_40 : Cond.selects "CodeQuizModel" ({ cls := "CodeQuizModel", name := "ended", desc := "(II)I" } : MethodName) ({ cls := "CodeQuizModel", name := "ended", desc := "(II)I" } : MethodName) ∈ W0 := W0_of (lwt_s (List.mem_of_getElem? (i := 40) (by decide +kernel))) rfl
theorem kws_41 : Cond.selects "CodeQuizModel" ({ cls := "CodeQuizModel", name := "beginOf", desc := "(II)I" } : MethodName) ({ cls := "CodeQuizModel", name := "beginOf", desc := "(II)I" } : MethodName) ∈ W0 := W0_of (lwt_s (List.mem_of_getElem? (i := 41) (by decide +kernel))) rfl
theorem kws_42 : Cond.selects "CodeQuizModel" ({ cls := "CodeQuizModel", name := "rows", desc := "(IIII)V" } : MethodName) ({ cls := "CodeQuizModel", name := "rows", desc := "(IIII)V" } : MethodName) ∈ W0 := W0_of (lwt_s (List.mem_of_getElem? (i := 42) (by decide +kernel))) rfl
theorem kws_43 : Cond.selects "CodeQuizModel" ({ cls := "CodeQuizModel", name := "end", desc := "(I)I" } : MethodName) ({ cls := "CodeQuizModel", name := "end", desc := "(I)I" } : MethodName) ∈ W0 := W0_of (lwt_s (List.mem_of_getElem? (i := 43) (by decide +kernel))) rfl
theorem kws_44 : Cond.selects "CodeQuizModel" ({ cls := "CodeQuizModel", name := "isQuestion", desc := "(I)Z" } : MethodName) ({ cls := "CodeQuizModel", name := "isQuestion", desc := "(I)Z" } : MethodName) ∈ W0 := W0_of (lwt_s (List.mem_of_getElem? (i := 44) (by decide +kernel))) rfl
theorem kws_45 : Cond.selects "CodeQuizModel" ({ cls := "CodeQuizModel", name := "answerOf", desc := "(II)I" } : MethodName) ({ cls := "CodeQuizModel", name := "answerOf", desc := "(II)I" } : MethodName) ∈ W0 := W0_of (lwt_s (List.mem_of_getElem? (i := 45) (by decide +kernel))) rfl
theorem kws_46 : Cond.selects "CodeQuizModel" ({ cls := "CodeQuizModel", name := "costOf", desc := "(II)I" } : MethodName) ({ cls := "CodeQuizModel", name := "costOf", desc := "(II)I" } : MethodName) ∈ W0 := W0_of (lwt_s (List.mem_of_getElem? (i := 46) (by decide +kernel))) rfl
theorem kws_47 : Cond.selects "CodeQuizModel" ({ cls := "CodeQuizModel", name := "findSets", desc := "(I)V" } : MethodName) ({ cls := "CodeQuizModel", name := "findSets", desc := "(I)V" } : MethodName) ∈ W0 := W0_of (lwt_s (List.mem_of_getElem? (i := 47) (by decide +kernel))) rfl
theorem kws_48 : Cond.selects "CodeQuizModel" ({ cls := "CodeQuizModel", name := "greatest", desc := "(I)I" } : MethodName) ({ cls := "CodeQuizModel", name := "greatest", desc := "(I)I" } : MethodName) ∈ W0 := W0_of (lwt_s (List.mem_of_getElem? (i := 48) (by decide +kernel))) rfl
theorem kws_49 : Cond.selects "CodeQuizModel" ({ cls := "CodeQuizModel", name := "tellApart", desc := "(IIII)Z" } : MethodName) ({ cls := "CodeQuizModel", name := "tellApart", desc := "(IIII)Z" } : MethodName) ∈ W0 := W0_of (lwt_s (List.mem_of_getElem? (i := 49) (by decide +kernel))) rfl
theorem kw1_0 : (Jvm.Cond.initialized "CodeQuizLaw") ∈ W0 := W0_of (lwt_1 (List.mem_of_getElem? (i := 0) (by decide +kernel))) rfl
theorem kw1_1 : (Jvm.Cond.initialized "CodeQuiz") ∈ W0 := W0_of (lwt_1 (List.mem_of_getElem? (i := 1) (by decide +kernel))) rfl
theorem kw1_2 : (Jvm.Cond.initialized "CodeQuiz$Machine") ∈ W0 := W0_of (lwt_1 (List.mem_of_getElem? (i := 2) (by decide +kernel))) rfl
theorem kw1_3 : (Jvm.Cond.initialized "CodeQuiz$Pupil") ∈ W0 := W0_of (lwt_1 (List.mem_of_getElem? (i := 3) (by decide +kernel))) rfl
theorem kw1_4 : (Jvm.Cond.initialized "java/util/Arrays") ∈ W0 := W0_of (lwt_1 (List.mem_of_getElem? (i := 4) (by decide +kernel))) rfl
theorem kw1_5 : (Jvm.Cond.initialized "CodeQuizModel") ∈ W0 := W0_of (lwt_1 (List.mem_of_getElem? (i := 5) (by decide +kernel))) rfl
theorem kw1_6 : (Jvm.Cond.initialized "CodeQuiz$Program") ∈ W0 := W0_of (lwt_1 (List.mem_of_getElem? (i := 6) (by decide +kernel))) rfl
theorem kw1_7 : (Jvm.Cond.initialized "CodeQuiz$Question") ∈ W0 := W0_of (lwt_1 (List.mem_of_getElem? (i := 7) (by decide +kernel))) rfl
theorem kw1_8 : (Jvm.Cond.initialized "java/lang/Long") ∈ W0 := W0_of (lwt_1 (List.mem_of_getElem? (i := 8) (by decide +kernel))) rfl
theorem kw1_9 : (Jvm.Cond.initialized "java/lang/Integer") ∈ W0 := W0_of (lwt_1 (List.mem_of_getElem? (i := 9) (by decide +kernel))) rfl
theorem kw1_10 : (Jvm.Cond.initialized "java/lang/Math") ∈ W0 := W0_of (lwt_1 (List.mem_of_getElem? (i := 10) (by decide +kernel))) rfl
theorem kw1_11 : (Jvm.Cond.classLink "CodeQuizLaw" (7 : Nat) "CodeQuiz") ∈ W0 := W0_of (lwt_1 (List.mem_of_getElem? (i := 11) (by decide +kernel))) rfl
theorem kw1_12 : (Jvm.Cond.instantiable "CodeQuiz" (18 : Nat)) ∈ W0 := W0_of (lwt_1 (List.mem_of_getElem? (i := 12) (by decide +kernel))) rfl
theorem kw1_13 : (Jvm.Cond.methodLink "CodeQuizLaw" (9 : Nat) ({ cls := "CodeQuiz", name := "<init>", desc := "()V" } : Jvm.MethodName)) ∈ W0 := W0_of (lwt_1 (List.mem_of_getElem? (i := 13) (by decide +kernel))) rfl
theorem kw1_14 : (Jvm.Cond.instanceMethod ({ cls := "CodeQuiz", name := "<init>", desc := "()V" } : Jvm.MethodName)) ∈ W0 := W0_of (lwt_1 (List.mem_of_getElem? (i := 14) (by decide +kernel))) rfl
theorem kw1_15 : (Jvm.Cond.code ({ cls := "CodeQuiz", name := "<init>", desc := "()V" } : Jvm.MethodName) prog_1_method_1_code (2 : Nat) (Option.none : Option Jvm.ClassFile.FieldType)) ∈ W0 := W0_of (lwt_1 (List.mem_of_getElem? (i := 15) (by decide +kernel))) rfl
theorem kw1_16 : (Jvm.Cond.methodLink "CodeQuiz" (3 : Nat) ({ cls := "java/lang/Object", name := "<init>", desc := "()V" } : Jvm.MethodName)) ∈ W0 := W0_of (lwt_1 (List.mem_of_getElem? (i := 16) (by decide +kernel))) rfl
theorem kw1_17 : (Jvm.Cond.instanceMethod ({ cls := "java/lang/Object", name := "<init>", desc := "()V" } : Jvm.MethodName)) ∈ W0 := W0_of (lwt_1 (List.mem_of_getElem? (i := 17) (by decide +kernel))) rfl
theorem kw1_18 : (Jvm.Cond.code ({ cls := "java/lang/Object", name := "<init>", desc := "()V" } : Jvm.MethodName) object_method_1_code (1 : Nat) (Option.none : Option Jvm.ClassFile.FieldType)) ∈ W0 := W0_of (lwt_1 (List.mem_of_getElem? (i := 18) (by decide +kernel))) rfl
theorem kw1_19 : (Jvm.Cond.classLink "CodeQuiz" (9 : Nat) "CodeQuiz$Program") ∈ W0 := W0_of (lwt_1 (List.mem_of_getElem? (i := 19) (by decide +kernel))) rfl
theorem kw1_21 : (Jvm.Cond.classLink "CodeQuiz" (15 : Nat) "CodeQuiz$Question") ∈ W0 := W0_of (lwt_1 (List.mem_of_getElem? (i := 21) (by decide +kernel))) rfl
theorem kw1_23 : (Jvm.Cond.classLink "CodeQuiz" (21 : Nat) "CodeQuiz$Pupil") ∈ W0 := W0_of (lwt_1 (List.mem_of_getElem? (i := 23) (by decide +kernel))) rfl
theorem kw1_25 : (Jvm.Cond.classLink "CodeQuiz" (31 : Nat) "CodeQuiz$Machine") ∈ W0 := W0_of (lwt_1 (List.mem_of_getElem? (i := 25) (by decide +kernel))) rfl
theorem kw1_26 : (Jvm.Cond.instantiable "CodeQuiz$Machine" (9 : Nat)) ∈ W0 := W0_of (lwt_1 (List.mem_of_getElem? (i := 26) (by decide +kernel))) rfl
theorem kw1_28 : (Jvm.Cond.instanceMethod ({ cls := "CodeQuiz$Machine", name := "<init>", desc := "()V" } : Jvm.MethodName)) ∈ W0 := W0_of (lwt_1 (List.mem_of_getElem? (i := 28) (by decide +kernel))) rfl
theorem kw1_29 : (Jvm.Cond.code ({ cls := "CodeQuiz$Machine", name := "<init>", desc := "()V" } : Jvm.MethodName) prog_2_method_1_code (1 : Nat) (Option.none : Option Jvm.ClassFile.FieldType)) ∈ W0 := W0_of (lwt_1 (List.mem_of_getElem? (i := 29) (by decide +kernel))) rfl
theorem kw1_30 : (Jvm.Cond.methodLink "CodeQuiz$Machine" (3 : Nat) ({ cls := "java/lang/Object", name := "<init>", desc := "()V" } : Jvm.MethodName)) ∈ W0 := W0_of (lwt_1 (List.mem_of_getElem? (i := 30) (by decide +kernel))) rfl
theorem kw1_31 : (Jvm.Cond.fieldLink "CodeQuiz$Machine" (9 : Nat) "CodeQuiz$Machine" "variables" "[I") ∈ W0 := W0_of (lwt_1 (List.mem_of_getElem? (i := 31) (by decide +kernel))) rfl
theorem kw1_33 : (Jvm.Cond.fieldLink "CodeQuiz$Machine" (15 : Nat) "CodeQuiz$Machine" "cells" "[I") ∈ W0 := W0_of (lwt_1 (List.mem_of_getElem? (i := 33) (by decide +kernel))) rfl
theorem kw1_34 : (Jvm.Cond.fieldLink "CodeQuiz$Machine" (18 : Nat) "CodeQuiz$Machine" "rowStarts" "[I") ∈ W0 := W0_of (lwt_1 (List.mem_of_getElem? (i := 34) (by decide +kernel))) rfl
theorem kw1_35 : (Jvm.Cond.fieldLink "CodeQuiz$Machine" (21 : Nat) "CodeQuiz$Machine" "timesDone" "[I") ∈ W0 := W0_of (lwt_1 (List.mem_of_getElem? (i := 35) (by decide +kernel))) rfl
theorem kw1_37 : (Jvm.Cond.fieldLink "CodeQuiz$Machine" (24 : Nat) "CodeQuiz$Machine" "roundsLeft" "[J") ∈ W0 := W0_of (lwt_1 (List.mem_of_getElem? (i := 37) (by decide +kernel))) rfl
theorem kw1_38 : (Jvm.Cond.fieldLink "CodeQuiz$Machine" (32 : Nat) "CodeQuiz$Machine" "slips" "I") ∈ W0 := W0_of (lwt_1 (List.mem_of_getElem? (i := 38) (by decide +kernel))) rfl
theorem kw1_39 : (Jvm.Cond.fieldLink "CodeQuiz$Machine" (41 : Nat) "CodeQuiz$Machine" "linesKnown" "I") ∈ W0 := W0_of (lwt_1 (List.mem_of_getElem? (i := 39) (by decide +kernel))) rfl
theorem kw1_41 : (Jvm.Cond.fieldLink "CodeQuiz$Machine" (44 : Nat) "CodeQuiz$Machine" "steps" "I") ∈ W0 := W0_of (lwt_1 (List.mem_of_getElem? (i := 41) (by decide +kernel))) rfl
theorem kw1_43 : (Jvm.Cond.fieldLink "CodeQuiz$Machine" (51 : Nat) "CodeQuiz$Machine" "spent" "Z") ∈ W0 := W0_of (lwt_1 (List.mem_of_getElem? (i := 43) (by decide +kernel))) rfl
theorem kw1_64 : (Jvm.Cond.arrayClass Jvm.ClassFile.FieldType.int) ∈ W0 := W0_of (lwt_1 (List.mem_of_getElem? (i := 64) (by decide +kernel))) rfl
theorem kw1_65 : (Jvm.Cond.arrayClass Jvm.ClassFile.FieldType.long) ∈ W0 := W0_of (lwt_1 (List.mem_of_getElem? (i := 65) (by decide +kernel))) rfl
theorem kw1_66 : (Jvm.Cond.instantiable "CodeQuiz$Pupil" (2 : Nat)) ∈ W0 := W0_of (lwt_1 (List.mem_of_getElem? (i := 66) (by decide +kernel))) rfl
theorem kw1_68 : (Jvm.Cond.instanceMethod ({ cls := "CodeQuiz$Pupil", name := "<init>", desc := "()V" } : Jvm.MethodName)) ∈ W0 := W0_of (lwt_1 (List.mem_of_getElem? (i := 68) (by decide +kernel))) rfl
theorem kw1_69 : (Jvm.Cond.code ({ cls := "CodeQuiz$Pupil", name := "<init>", desc := "()V" } : Jvm.MethodName) prog_4_method_1_code (1 : Nat) (Option.none : Option Jvm.ClassFile.FieldType)) ∈ W0 := W0_of (lwt_1 (List.mem_of_getElem? (i := 69) (by decide +kernel))) rfl
theorem kw1_70 : (Jvm.Cond.methodLink "CodeQuiz$Pupil" (3 : Nat) ({ cls := "java/lang/Object", name := "<init>", desc := "()V" } : Jvm.MethodName)) ∈ W0 := W0_of (lwt_1 (List.mem_of_getElem? (i := 70) (by decide +kernel))) rfl
theorem kw1_71 : (Jvm.Cond.fieldLink "CodeQuiz$Pupil" (9 : Nat) "CodeQuiz$Pupil" "values" "[I") ∈ W0 := W0_of (lwt_1 (List.mem_of_getElem? (i := 71) (by decide +kernel))) rfl
theorem kw1_73 : (Jvm.Cond.fieldLink "CodeQuiz$Pupil" (15 : Nat) "CodeQuiz$Pupil" "answered" "J") ∈ W0 := W0_of (lwt_1 (List.mem_of_getElem? (i := 73) (by decide +kernel))) rfl
theorem kw1_79 : (Jvm.Cond.methodLink "CodeQuiz" (57 : Nat) ({ cls := "java/util/Arrays", name := "fill", desc := "([II)V" } : Jvm.MethodName)) ∈ W0 := W0_of (lwt_1 (List.mem_of_getElem? (i := 79) (by decide +kernel))) rfl
theorem kw1_80 : (Jvm.Cond.static ({ cls := "java/util/Arrays", name := "fill", desc := "([II)V" } : Jvm.MethodName)) ∈ W0 := W0_of (lwt_1 (List.mem_of_getElem? (i := 80) (by decide +kernel))) rfl
theorem kw1_81 : (Jvm.Cond.code ({ cls := "java/util/Arrays", name := "fill", desc := "([II)V" } : Jvm.MethodName) prog_11_method_103_code (4 : Nat) (Option.none : Option Jvm.ClassFile.FieldType)) ∈ W0 := W0_of (lwt_1 (List.mem_of_getElem? (i := 81) (by decide +kernel))) rfl
theorem kw1_82 : (Jvm.Cond.fieldLink "CodeQuiz" (11 : Nat) "CodeQuiz" "programs" "[LCodeQuiz$Program;") ∈ W0 := W0_of (lwt_1 (List.mem_of_getElem? (i := 82) (by decide +kernel))) rfl
theorem kw1_83 : (Jvm.Cond.fieldLink "CodeQuiz" (17 : Nat) "CodeQuiz" "questions" "[LCodeQuiz$Question;") ∈ W0 := W0_of (lwt_1 (List.mem_of_getElem? (i := 83) (by decide +kernel))) rfl
theorem kw1_84 : (Jvm.Cond.fieldLink "CodeQuiz" (23 : Nat) "CodeQuiz" "pupils" "[LCodeQuiz$Pupil;") ∈ W0 := W0_of (lwt_1 (List.mem_of_getElem? (i := 84) (by decide +kernel))) rfl
theorem kw1_85 : (Jvm.Cond.fieldLink "CodeQuiz" (27 : Nat) "CodeQuiz" "prices" "[I") ∈ W0 := W0_of (lwt_1 (List.mem_of_getElem? (i := 85) (by decide +kernel))) rfl
theorem kw1_86 : (Jvm.Cond.fieldLink "CodeQuiz" (34 : Nat) "CodeQuiz" "latest" "LCodeQuiz$Machine;") ∈ W0 := W0_of (lwt_1 (List.mem_of_getElem? (i := 86) (by decide +kernel))) rfl
theorem kw1_87 : (Jvm.Cond.fieldLink "CodeQuiz" (38 : Nat) "CodeQuiz" "first" "LCodeQuiz$Machine;") ∈ W0 := W0_of (lwt_1 (List.mem_of_getElem? (i := 87) (by decide +kernel))) rfl
theorem kw1_88 : (Jvm.Cond.fieldLink "CodeQuiz" (41 : Nat) "CodeQuiz" "second" "LCodeQuiz$Machine;") ∈ W0 := W0_of (lwt_1 (List.mem_of_getElem? (i := 88) (by decide +kernel))) rfl
theorem kw1_89 : (Jvm.Cond.fieldLink "CodeQuiz" (44 : Nat) "CodeQuiz" "choiceValues" "[I") ∈ W0 := W0_of (lwt_1 (List.mem_of_getElem? (i := 89) (by decide +kernel))) rfl
theorem kw1_90 : (Jvm.Cond.fieldLink "CodeQuiz" (47 : Nat) "CodeQuiz" "choiceSlips" "[I") ∈ W0 := W0_of (lwt_1 (List.mem_of_getElem? (i := 90) (by decide +kernel))) rfl
theorem kw1_91 : (Jvm.Cond.fieldLink "CodeQuiz" (50 : Nat) "CodeQuiz" "setAnswers" "[I") ∈ W0 := W0_of (lwt_1 (List.mem_of_getElem? (i := 91) (by decide +kernel))) rfl
theorem kw1_92 : (Jvm.Cond.fieldLink "CodeQuiz" (53 : Nat) "CodeQuiz" "partedPairs" "[I") ∈ W0 := W0_of (lwt_1 (List.mem_of_getElem? (i := 92) (by decide +kernel))) rfl
theorem kw1_93 : (Jvm.Cond.fieldLink "CodeQuiz" (63 : Nat) "CodeQuiz" "programCount" "I") ∈ W0 := W0_of (lwt_1 (List.mem_of_getElem? (i := 93) (by decide +kernel))) rfl
theorem kw1_94 : (Jvm.Cond.fieldLink "CodeQuiz" (150 : Nat) "CodeQuiz" "questionCount" "I") ∈ W0 := W0_of (lwt_1 (List.mem_of_getElem? (i := 94) (by decide +kernel))) rfl
theorem kw1_95 : (Jvm.Cond.fieldLink "CodeQuiz" (87 : Nat) "CodeQuiz" "lineCount" "I") ∈ W0 := W0_of (lwt_1 (List.mem_of_getElem? (i := 95) (by decide +kernel))) rfl
theorem kw1_96 : (Jvm.Cond.fieldLink "CodeQuiz" (121 : Nat) "CodeQuiz" "hasRun" "Z") ∈ W0 := W0_of (lwt_1 (List.mem_of_getElem? (i := 96) (by decide +kernel))) rfl
theorem kw1_97 : (Jvm.Cond.fieldLink "CodeQuiz" (168 : Nat) "CodeQuiz" "latestChoicesQuestion" "I") ∈ W0 := W0_of (lwt_1 (List.mem_of_getElem? (i := 97) (by decide +kernel))) rfl
theorem kw1_98 : (Jvm.Cond.fieldLink "CodeQuiz" (171 : Nat) "CodeQuiz" "latestChoicesCount" "I") ∈ W0 := W0_of (lwt_1 (List.mem_of_getElem? (i := 98) (by decide +kernel))) rfl
theorem kw1_99 : (Jvm.Cond.fieldLink "CodeQuiz" (178 : Nat) "CodeQuiz" "latestFillings" "J") ∈ W0 := W0_of (lwt_1 (List.mem_of_getElem? (i := 99) (by decide +kernel))) rfl
theorem kw1_137 : (Jvm.Cond.methodLink "CodeQuizLaw" (13 : Nat) ({ cls := "CodeQuiz", name := "program", desc := "()I" } : Jvm.MethodName)) ∈ W0 := W0_of (lwt_1 (List.mem_of_getElem? (i := 137) (by decide +kernel))) rfl
theorem kw1_138 : (Jvm.Cond.instanceMethod ({ cls := "CodeQuiz", name := "program", desc := "()I" } : Jvm.MethodName)) ∈ W0 := W0_of (lwt_1 (List.mem_of_getElem? (i := 138) (by decide +kernel))) rfl
theorem kw1_139 : (Jvm.Cond.selects "CodeQuiz" ({ cls := "CodeQuiz", name := "program", desc := "()I" } : Jvm.MethodName) ({ cls := "CodeQuiz", name := "program", desc := "()I" } : Jvm.MethodName)) ∈ W0 := W0_of (lwt_1 (List.mem_of_getElem? (i := 139) (by decide +kernel))) rfl
theorem kw1_140 : (Jvm.Cond.code ({ cls := "CodeQuiz", name := "program", desc := "()I" } : Jvm.MethodName) prog_1_method_2_code (1 : Nat) (Option.some Jvm.ClassFile.FieldType.int)) ∈ W0 := W0_of (lwt_1 (List.mem_of_getElem? (i := 140) (by decide +kernel))) rfl
theorem kw1_141 : (Jvm.Cond.instantiable "CodeQuiz$Program" (9 : Nat)) ∈ W0 := W0_of (lwt_1 (List.mem_of_getElem? (i := 141) (by decide +kernel))) rfl
theorem kw1_143 : (Jvm.Cond.instanceMethod ({ cls := "CodeQuiz$Program", name := "<init>", desc := "()V" } : Jvm.MethodName)) ∈ W0 := W0_of (lwt_1 (List.mem_of_getElem? (i := 143) (by decide +kernel))) rfl
theorem kw1_144 : (Jvm.Cond.code ({ cls := "CodeQuiz$Program", name := "<init>", desc := "()V" } : Jvm.MethodName) prog_3_method_1_code (1 : Nat) (Option.none : Option Jvm.ClassFile.FieldType)) ∈ W0 := W0_of (lwt_1 (List.mem_of_getElem? (i := 144) (by decide +kernel))) rfl
theorem kw1_145 : (Jvm.Cond.methodLink "CodeQuiz$Program" (3 : Nat) ({ cls := "java/lang/Object", name := "<init>", desc := "()V" } : Jvm.MethodName)) ∈ W0 := W0_of (lwt_1 (List.mem_of_getElem? (i := 145) (by decide +kernel))) rfl
theorem kw1_146 : (Jvm.Cond.fieldLink "CodeQuiz$Program" (9 : Nat) "CodeQuiz$Program" "ops" "[I") ∈ W0 := W0_of (lwt_1 (List.mem_of_getElem? (i := 146) (by decide +kernel))) rfl
theorem kw1_149 : (Jvm.Cond.fieldLink "CodeQuiz$Program" (15 : Nat) "CodeQuiz$Program" "xs" "[I") ∈ W0 := W0_of (lwt_1 (List.mem_of_getElem? (i := 149) (by decide +kernel))) rfl
theorem kw1_152 : (Jvm.Cond.fieldLink "CodeQuiz$Program" (18 : Nat) "CodeQuiz$Program" "ys" "[I") ∈ W0 := W0_of (lwt_1 (List.mem_of_getElem? (i := 152) (by decide +kernel))) rfl
theorem kw1_155 : (Jvm.Cond.fieldLink "CodeQuiz$Program" (21 : Nat) "CodeQuiz$Program" "depths" "[I") ∈ W0 := W0_of (lwt_1 (List.mem_of_getElem? (i := 155) (by decide +kernel))) rfl
theorem kw1_157 : (Jvm.Cond.fieldLink "CodeQuiz$Program" (24 : Nat) "CodeQuiz$Program" "mates" "[I") ∈ W0 := W0_of (lwt_1 (List.mem_of_getElem? (i := 157) (by decide +kernel))) rfl
theorem kw1_159 : (Jvm.Cond.fieldLink "CodeQuiz$Program" (27 : Nat) "CodeQuiz$Program" "openLines" "[I") ∈ W0 := W0_of (lwt_1 (List.mem_of_getElem? (i := 159) (by decide +kernel))) rfl
theorem kw1_160 : (Jvm.Cond.fieldLink "CodeQuiz$Program" (34 : Nat) "CodeQuiz$Program" "openCount" "I") ∈ W0 := W0_of (lwt_1 (List.mem_of_getElem? (i := 160) (by decide +kernel))) rfl
theorem kw1_161 : (Jvm.Cond.fieldLink "CodeQuiz$Program" (30 : Nat) "CodeQuiz$Program" "size" "I") ∈ W0 := W0_of (lwt_1 (List.mem_of_getElem? (i := 161) (by decide +kernel))) rfl
theorem kw1_184 : (Jvm.Cond.methodLink "CodeQuizLaw" (18 : Nat) ({ cls := "CodeQuiz", name := "line", desc := "(IIII)I" } : Jvm.MethodName)) ∈ W0 := W0_of (lwt_1 (List.mem_of_getElem? (i := 184) (by decide +kernel))) rfl
theorem kw1_185 : (Jvm.Cond.instanceMethod ({ cls := "CodeQuiz", name := "line", desc := "(IIII)I" } : Jvm.MethodName)) ∈ W0 := W0_of (lwt_1 (List.mem_of_getElem? (i := 185) (by decide +kernel))) rfl
theorem kw1_186 : (Jvm.Cond.selects "CodeQuiz" ({ cls := "CodeQuiz", name := "line", desc := "(IIII)I" } : Jvm.MethodName) ({ cls := "CodeQuiz", name := "line", desc := "(IIII)I" } : Jvm.MethodName)) ∈ W0 := W0_of (lwt_1 (List.mem_of_getElem? (i := 186) (by decide +kernel))) rfl
theorem kw1_187 : (Jvm.Cond.code ({ cls := "CodeQuiz", name := "line", desc := "(IIII)I" } : Jvm.MethodName) prog_1_method_3_code (6 : Nat) (Option.some Jvm.ClassFile.FieldType.int)) ∈ W0 := W0_of (lwt_1 (List.mem_of_getElem? (i := 187) (by decide +kernel))) rfl
theorem kw1_188 : (Jvm.Cond.methodLink "CodeQuiz" (68 : Nat) ({ cls := "CodeQuiz", name := "programAt", desc := "(I)LCodeQuiz$Program;" } : Jvm.MethodName)) ∈ W0 := W0_of (lwt_1 (List.mem_of_getElem? (i := 188) (by decide +kernel))) rfl
theorem kw1_190 : (Jvm.Cond.instanceMethod ({ cls := "CodeQuiz", name := "programAt", desc := "(I)LCodeQuiz$Program;" } : Jvm.MethodName)) ∈ W0 := W0_of (lwt_1 (List.mem_of_getElem? (i := 190) (by decide +kernel))) rfl
theorem kw1_191 : (Jvm.Cond.code ({ cls := "CodeQuiz", name := "programAt", desc := "(I)LCodeQuiz$Program;" } : Jvm.MethodName) prog_1_method_25_code (2 : Nat) (Option.some (Jvm.ClassFile.FieldType.object "CodeQuiz$Program"))) ∈ W0 := W0_of (lwt_1 (List.mem_of_getElem? (i := 191) (by decide +kernel))) rfl
theorem kw1_192 : (Jvm.Cond.methodLink "CodeQuiz" (72 : Nat) ({ cls := "CodeQuiz", name := "fitsOp", desc := "(III)Z" } : Jvm.MethodName)) ∈ W0 := W0_of (lwt_1 (List.mem_of_getElem? (i := 192) (by decide +kernel))) rfl
theorem kw1_193 : (Jvm.Cond.static ({ cls := "CodeQuiz", name := "fitsOp", desc := "(III)Z" } : Jvm.MethodName)) ∈ W0 := W0_of (lwt_1 (List.mem_of_getElem? (i := 193) (by decide +kernel))) rfl
theorem kw1_194 : (Jvm.Cond.code ({ cls := "CodeQuiz", name := "fitsOp", desc := "(III)Z" } : Jvm.MethodName) prog_1_method_33_code (3 : Nat) (Option.some Jvm.ClassFile.FieldType.boolean)) ∈ W0 := W0_of (lwt_1 (List.mem_of_getElem? (i := 194) (by decide +kernel))) rfl
theorem kw1_195 : (Jvm.Cond.methodLink "CodeQuiz" (246 : Nat) ({ cls := "CodeQuiz", name := "isVariable", desc := "(I)Z" } : Jvm.MethodName)) ∈ W0 := W0_of (lwt_1 (List.mem_of_getElem? (i := 195) (by decide +kernel))) rfl
theorem kw1_196 : (Jvm.Cond.static ({ cls := "CodeQuiz", name := "isVariable", desc := "(I)Z" } : Jvm.MethodName)) ∈ W0 := W0_of (lwt_1 (List.mem_of_getElem? (i := 196) (by decide +kernel))) rfl
theorem kw1_197 : (Jvm.Cond.code ({ cls := "CodeQuiz", name := "isVariable", desc := "(I)Z" } : Jvm.MethodName) prog_1_method_30_code (1 : Nat) (Option.some Jvm.ClassFile.FieldType.boolean)) ∈ W0 := W0_of (lwt_1 (List.mem_of_getElem? (i := 197) (by decide +kernel))) rfl
theorem kw1_198 : (Jvm.Cond.methodLink "CodeQuiz" (249 : Nat) ({ cls := "CodeQuiz", name := "isCell", desc := "(I)Z" } : Jvm.MethodName)) ∈ W0 := W0_of (lwt_1 (List.mem_of_getElem? (i := 198) (by decide +kernel))) rfl
theorem kw1_199 : (Jvm.Cond.static ({ cls := "CodeQuiz", name := "isCell", desc := "(I)Z" } : Jvm.MethodName)) ∈ W0 := W0_of (lwt_1 (List.mem_of_getElem? (i := 199) (by decide +kernel))) rfl
theorem kw1_200 : (Jvm.Cond.code ({ cls := "CodeQuiz", name := "isCell", desc := "(I)Z" } : Jvm.MethodName) prog_1_method_31_code (1 : Nat) (Option.some Jvm.ClassFile.FieldType.boolean)) ∈ W0 := W0_of (lwt_1 (List.mem_of_getElem? (i := 200) (by decide +kernel))) rfl
theorem kw1_201 : (Jvm.Cond.methodLink "CodeQuiz" (252 : Nat) ({ cls := "CodeQuiz", name := "isName", desc := "(I)Z" } : Jvm.MethodName)) ∈ W0 := W0_of (lwt_1 (List.mem_of_getElem? (i := 201) (by decide +kernel))) rfl
theorem kw1_202 : (Jvm.Cond.static ({ cls := "CodeQuiz", name := "isName", desc := "(I)Z" } : Jvm.MethodName)) ∈ W0 := W0_of (lwt_1 (List.mem_of_getElem? (i := 202) (by decide +kernel))) rfl
theorem kw1_203 : (Jvm.Cond.code ({ cls := "CodeQuiz", name := "isName", desc := "(I)Z" } : Jvm.MethodName) prog_1_method_32_code (1 : Nat) (Option.some Jvm.ClassFile.FieldType.boolean)) ∈ W0 := W0_of (lwt_1 (List.mem_of_getElem? (i := 203) (by decide +kernel))) rfl
theorem kw1_206 : (Jvm.Cond.instanceMethod ({ cls := "CodeQuiz$Program", name := "isWhole", desc := "()Z" } : Jvm.MethodName)) ∈ W0 := W0_of (lwt_1 (List.mem_of_getElem? (i := 206) (by decide +kernel))) rfl
theorem kw1_207 : (Jvm.Cond.code ({ cls := "CodeQuiz$Program", name := "isWhole", desc := "()Z" } : Jvm.MethodName) prog_3_method_3_code (1 : Nat) (Option.some Jvm.ClassFile.FieldType.boolean)) ∈ W0 := W0_of (lwt_1 (List.mem_of_getElem? (i := 207) (by decide +kernel))) rfl
theorem kw1_210 : (Jvm.Cond.instanceMethod ({ cls := "CodeQuiz$Program", name := "append", desc := "(III)I" } : Jvm.MethodName)) ∈ W0 := W0_of (lwt_1 (List.mem_of_getElem? (i := 210) (by decide +kernel))) rfl
theorem kw1_211 : (Jvm.Cond.code ({ cls := "CodeQuiz$Program", name := "append", desc := "(III)I" } : Jvm.MethodName) prog_3_method_4_code (4 : Nat) (Option.some Jvm.ClassFile.FieldType.int)) ∈ W0 := W0_of (lwt_1 (List.mem_of_getElem? (i := 211) (by decide +kernel))) rfl
theorem kw1_212 : (Jvm.Cond.methodLink "CodeQuizLaw" (23 : Nat) ({ cls := "CodeQuiz", name := "about", desc := "(III)I" } : Jvm.MethodName)) ∈ W0 := W0_of (lwt_1 (List.mem_of_getElem? (i := 212) (by decide +kernel))) rfl
theorem kw1_213 : (Jvm.Cond.instanceMethod ({ cls := "CodeQuiz", name := "about", desc := "(III)I" } : Jvm.MethodName)) ∈ W0 := W0_of (lwt_1 (List.mem_of_getElem? (i := 213) (by decide +kernel))) rfl
theorem kw1_214 : (Jvm.Cond.selects "CodeQuiz" ({ cls := "CodeQuiz", name := "about", desc := "(III)I" } : Jvm.MethodName) ({ cls := "CodeQuiz", name := "about", desc := "(III)I" } : Jvm.MethodName)) ∈ W0 := W0_of (lwt_1 (List.mem_of_getElem? (i := 214) (by decide +kernel))) rfl
theorem kw1_215 : (Jvm.Cond.code ({ cls := "CodeQuiz", name := "about", desc := "(III)I" } : Jvm.MethodName) prog_1_method_4_code (5 : Nat) (Option.some Jvm.ClassFile.FieldType.int)) ∈ W0 := W0_of (lwt_1 (List.mem_of_getElem? (i := 215) (by decide +kernel))) rfl
theorem kw1_218 : (Jvm.Cond.instanceMethod ({ cls := "CodeQuiz$Program", name := "hasLine", desc := "(I)Z" } : Jvm.MethodName)) ∈ W0 := W0_of (lwt_1 (List.mem_of_getElem? (i := 218) (by decide +kernel))) rfl
theorem kw1_219 : (Jvm.Cond.code ({ cls := "CodeQuiz$Program", name := "hasLine", desc := "(I)Z" } : Jvm.MethodName) prog_3_method_2_code (2 : Nat) (Option.some Jvm.ClassFile.FieldType.boolean)) ∈ W0 := W0_of (lwt_1 (List.mem_of_getElem? (i := 219) (by decide +kernel))) rfl
theorem kw1_220 : (Jvm.Cond.constant "CodeQuiz" (98 : Nat) (-2000000000 : Int32)) ∈ W0 := W0_of (lwt_1 (List.mem_of_getElem? (i := 220) (by decide +kernel))) rfl
theorem kw1_221 : (Jvm.Cond.methodLink "CodeQuizLaw" (28 : Nat) ({ cls := "CodeQuiz", name := "whole", desc := "(I)I" } : Jvm.MethodName)) ∈ W0 := W0_of (lwt_1 (List.mem_of_getElem? (i := 221) (by decide +kernel))) rfl
theorem kw1_222 : (Jvm.Cond.instanceMethod ({ cls := "CodeQuiz", name := "whole", desc := "(I)I" } : Jvm.MethodName)) ∈ W0 := W0_of (lwt_1 (List.mem_of_getElem? (i := 222) (by decide +kernel))) rfl
theorem kw1_223 : (Jvm.Cond.selects "CodeQuiz" ({ cls := "CodeQuiz", name := "whole", desc := "(I)I" } : Jvm.MethodName) ({ cls := "CodeQuiz", name := "whole", desc := "(I)I" } : Jvm.MethodName)) ∈ W0 := W0_of (lwt_1 (List.mem_of_getElem? (i := 223) (by decide +kernel))) rfl
theorem kw1_224 : (Jvm.Cond.code ({ cls := "CodeQuiz", name := "whole", desc := "(I)I" } : Jvm.MethodName) prog_1_method_5_code (3 : Nat) (Option.some Jvm.ClassFile.FieldType.int)) ∈ W0 := W0_of (lwt_1 (List.mem_of_getElem? (i := 224) (by decide +kernel))) rfl
theorem kw1_225 : (Jvm.Cond.methodLink "CodeQuizLaw" (33 : Nat) ({ cls := "CodeQuiz", name := "run", desc := "(III)I" } : Jvm.MethodName)) ∈ W0 := W0_of (lwt_1 (List.mem_of_getElem? (i := 225) (by decide +kernel))) rfl
theorem kw1_226 : (Jvm.Cond.instanceMethod ({ cls := "CodeQuiz", name := "run", desc := "(III)I" } : Jvm.MethodName)) ∈ W0 := W0_of (lwt_1 (List.mem_of_getElem? (i := 226) (by decide +kernel))) rfl
theorem kw1_227 : (Jvm.Cond.selects "CodeQuiz" ({ cls := "CodeQuiz", name := "run", desc := "(III)I" } : Jvm.MethodName) ({ cls := "CodeQuiz", name := "run", desc := "(III)I" } : Jvm.MethodName)) ∈ W0 := W0_of (lwt_1 (List.mem_of_getElem? (i := 227) (by decide +kernel))) rfl
theorem kw1_228 : (Jvm.Cond.code ({ cls := "CodeQuiz", name := "run", desc := "(III)I" } : Jvm.MethodName) prog_1_method_6_code (5 : Nat) (Option.some Jvm.ClassFile.FieldType.int)) ∈ W0 := W0_of (lwt_1 (List.mem_of_getElem? (i := 228) (by decide +kernel))) rfl
theorem kw1_229 : (Jvm.Cond.methodLink "CodeQuiz" (111 : Nat) ({ cls := "CodeQuiz", name := "isInput", desc := "(I)Z" } : Jvm.MethodName)) ∈ W0 := W0_of (lwt_1 (List.mem_of_getElem? (i := 229) (by decide +kernel))) rfl
theorem kw1_230 : (Jvm.Cond.static ({ cls := "CodeQuiz", name := "isInput", desc := "(I)Z" } : Jvm.MethodName)) ∈ W0 := W0_of (lwt_1 (List.mem_of_getElem? (i := 230) (by decide +kernel))) rfl
theorem kw1_231 : (Jvm.Cond.code ({ cls := "CodeQuiz", name := "isInput", desc := "(I)Z" } : Jvm.MethodName) prog_1_method_28_code (1 : Nat) (Option.some Jvm.ClassFile.FieldType.boolean)) ∈ W0 := W0_of (lwt_1 (List.mem_of_getElem? (i := 231) (by decide +kernel))) rfl
theorem kw1_232 : (Jvm.Cond.methodLink "CodeQuiz" (114 : Nat) ({ cls := "CodeQuiz", name := "isMachine", desc := "(I)Z" } : Jvm.MethodName)) ∈ W0 := W0_of (lwt_1 (List.mem_of_getElem? (i := 232) (by decide +kernel))) rfl
theorem kw1_233 : (Jvm.Cond.static ({ cls := "CodeQuiz", name := "isMachine", desc := "(I)Z" } : Jvm.MethodName)) ∈ W0 := W0_of (lwt_1 (List.mem_of_getElem? (i := 233) (by decide +kernel))) rfl
theorem kw1_234 : (Jvm.Cond.code ({ cls := "CodeQuiz", name := "isMachine", desc := "(I)Z" } : Jvm.MethodName) prog_1_method_29_code (1 : Nat) (Option.some Jvm.ClassFile.FieldType.boolean)) ∈ W0 := W0_of (lwt_1 (List.mem_of_getElem? (i := 234) (by decide +kernel))) rfl
theorem kw1_237 : (Jvm.Cond.instanceMethod ({ cls := "CodeQuiz$Machine", name := "perform", desc := "(LCodeQuiz$Program;II)V" } : Jvm.MethodName)) ∈ W0 := W0_of (lwt_1 (List.mem_of_getElem? (i := 237) (by decide +kernel))) rfl
theorem kw1_238 : (Jvm.Cond.code ({ cls := "CodeQuiz$Machine", name := "perform", desc := "(LCodeQuiz$Program;II)V" } : Jvm.MethodName) prog_2_method_2_code (5 : Nat) (Option.none : Option Jvm.ClassFile.FieldType)) ∈ W0 := W0_of (lwt_1 (List.mem_of_getElem? (i := 238) (by decide +kernel))) rfl
theorem kw1_239 : (Jvm.Cond.methodLink "CodeQuiz$Machine" (28 : Nat) ({ cls := "CodeQuiz$Machine", name := "begin", desc := "(I)V" } : Jvm.MethodName)) ∈ W0 := W0_of (lwt_1 (List.mem_of_getElem? (i := 239) (by decide +kernel))) rfl
theorem kw2_1 : (Jvm.Cond.instanceMethod ({ cls := "CodeQuiz$Machine", name := "begin", desc := "(I)V" } : Jvm.MethodName)) ∈ W0 := W0_of (lwt_2 (List.mem_of_getElem? (i := 1) (by decide +kernel))) rfl
theorem kw2_2 : (Jvm.Cond.code ({ cls := "CodeQuiz$Machine", name := "begin", desc := "(I)V" } : Jvm.MethodName) prog_2_method_3_code (2 : Nat) (Option.none : Option Jvm.ClassFile.FieldType)) ∈ W0 := W0_of (lwt_2 (List.mem_of_getElem? (i := 2) (by decide +kernel))) rfl
theorem kw2_3 : (Jvm.Cond.methodLink "CodeQuiz$Machine" (55 : Nat) ({ cls := "java/util/Arrays", name := "fill", desc := "([II)V" } : Jvm.MethodName)) ∈ W0 := W0_of (lwt_2 (List.mem_of_getElem? (i := 3) (by decide +kernel))) rfl
theorem kw2_4 : (Jvm.Cond.methodLink "CodeQuiz$Machine" (47 : Nat) ({ cls := "CodeQuiz$Machine", name := "doLine", desc := "(LCodeQuiz$Program;I)I" } : Jvm.MethodName)) ∈ W0 := W0_of (lwt_2 (List.mem_of_getElem? (i := 4) (by decide +kernel))) rfl
theorem kw2_6 : (Jvm.Cond.instanceMethod ({ cls := "CodeQuiz$Machine", name := "doLine", desc := "(LCodeQuiz$Program;I)I" } : Jvm.MethodName)) ∈ W0 := W0_of (lwt_2 (List.mem_of_getElem? (i := 6) (by decide +kernel))) rfl
theorem kw2_7 : (Jvm.Cond.code ({ cls := "CodeQuiz$Machine", name := "doLine", desc := "(LCodeQuiz$Program;I)I" } : Jvm.MethodName) prog_2_method_5_code (5 : Nat) (Option.some Jvm.ClassFile.FieldType.int)) ∈ W0 := W0_of (lwt_2 (List.mem_of_getElem? (i := 7) (by decide +kernel))) rfl
theorem kw2_8 : (Jvm.Cond.methodLink "CodeQuiz$Machine" (70 : Nat) ({ cls := "CodeQuiz$Machine", name := "has", desc := "(I)Z" } : Jvm.MethodName)) ∈ W0 := W0_of (lwt_2 (List.mem_of_getElem? (i := 8) (by decide +kernel))) rfl
theorem kw2_10 : (Jvm.Cond.instanceMethod ({ cls := "CodeQuiz$Machine", name := "has", desc := "(I)Z" } : Jvm.MethodName)) ∈ W0 := W0_of (lwt_2 (List.mem_of_getElem? (i := 10) (by decide +kernel))) rfl
theorem kw2_11 : (Jvm.Cond.code ({ cls := "CodeQuiz$Machine", name := "has", desc := "(I)Z" } : Jvm.MethodName) prog_2_method_4_code (2 : Nat) (Option.some Jvm.ClassFile.FieldType.boolean)) ∈ W0 := W0_of (lwt_2 (List.mem_of_getElem? (i := 11) (by decide +kernel))) rfl
theorem kw2_12 : (Jvm.Cond.methodLink "CodeQuiz$Machine" (74 : Nat) ({ cls := "CodeQuiz$Machine", name := "enterLoop", desc := "(IIZ)Z" } : Jvm.MethodName)) ∈ W0 := W0_of (lwt_2 (List.mem_of_getElem? (i := 12) (by decide +kernel))) rfl
theorem kw2_14 : (Jvm.Cond.instanceMethod ({ cls := "CodeQuiz$Machine", name := "enterLoop", desc := "(IIZ)Z" } : Jvm.MethodName)) ∈ W0 := W0_of (lwt_2 (List.mem_of_getElem? (i := 14) (by decide +kernel))) rfl
theorem kw2_15 : (Jvm.Cond.code ({ cls := "CodeQuiz$Machine", name := "enterLoop", desc := "(IIZ)Z" } : Jvm.MethodName) prog_2_method_6_code (4 : Nat) (Option.some Jvm.ClassFile.FieldType.boolean)) ∈ W0 := W0_of (lwt_2 (List.mem_of_getElem? (i := 15) (by decide +kernel))) rfl
theorem kw2_16 : (Jvm.Cond.methodLink "CodeQuiz$Machine" (81 : Nat) ({ cls := "CodeQuiz$Machine", name := "isLess", desc := "(IIZ)Z" } : Jvm.MethodName)) ∈ W0 := W0_of (lwt_2 (List.mem_of_getElem? (i := 16) (by decide +kernel))) rfl
theorem kw2_18 : (Jvm.Cond.instanceMethod ({ cls := "CodeQuiz$Machine", name := "isLess", desc := "(IIZ)Z" } : Jvm.MethodName)) ∈ W0 := W0_of (lwt_2 (List.mem_of_getElem? (i := 18) (by decide +kernel))) rfl
theorem kw2_19 : (Jvm.Cond.code ({ cls := "CodeQuiz$Machine", name := "isLess", desc := "(IIZ)Z" } : Jvm.MethodName) prog_2_method_7_code (4 : Nat) (Option.some Jvm.ClassFile.FieldType.boolean)) ∈ W0 := W0_of (lwt_2 (List.mem_of_getElem? (i := 19) (by decide +kernel))) rfl
theorem kw2_20 : (Jvm.Cond.methodLink "CodeQuiz$Machine" (84 : Nat) ({ cls := "CodeQuiz$Machine", name := "goesRound", desc := "(LCodeQuiz$Program;I)Z" } : Jvm.MethodName)) ∈ W0 := W0_of (lwt_2 (List.mem_of_getElem? (i := 20) (by decide +kernel))) rfl
theorem kw2_22 : (Jvm.Cond.instanceMethod ({ cls := "CodeQuiz$Machine", name := "goesRound", desc := "(LCodeQuiz$Program;I)Z" } : Jvm.MethodName)) ∈ W0 := W0_of (lwt_2 (List.mem_of_getElem? (i := 22) (by decide +kernel))) rfl
theorem kw2_23 : (Jvm.Cond.code ({ cls := "CodeQuiz$Machine", name := "goesRound", desc := "(LCodeQuiz$Program;I)Z" } : Jvm.MethodName) prog_2_method_8_code (4 : Nat) (Option.some Jvm.ClassFile.FieldType.boolean)) ∈ W0 := W0_of (lwt_2 (List.mem_of_getElem? (i := 23) (by decide +kernel))) rfl
theorem kw2_24 : (Jvm.Cond.methodLink "CodeQuiz$Machine" (88 : Nat) ({ cls := "CodeQuiz$Machine", name := "placeOf", desc := "(II)I" } : Jvm.MethodName)) ∈ W0 := W0_of (lwt_2 (List.mem_of_getElem? (i := 24) (by decide +kernel))) rfl
theorem kw2_26 : (Jvm.Cond.instanceMethod ({ cls := "CodeQuiz$Machine", name := "placeOf", desc := "(II)I" } : Jvm.MethodName)) ∈ W0 := W0_of (lwt_2 (List.mem_of_getElem? (i := 26) (by decide +kernel))) rfl
theorem kw2_27 : (Jvm.Cond.code ({ cls := "CodeQuiz$Machine", name := "placeOf", desc := "(II)I" } : Jvm.MethodName) prog_2_method_9_code (3 : Nat) (Option.some Jvm.ClassFile.FieldType.int)) ∈ W0 := W0_of (lwt_2 (List.mem_of_getElem? (i := 27) (by decide +kernel))) rfl
theorem kw2_28 : (Jvm.Cond.methodLink "CodeQuiz$Machine" (92 : Nat) ({ cls := "CodeQuiz$Machine", name := "doShare", desc := "(IIZ)V" } : Jvm.MethodName)) ∈ W0 := W0_of (lwt_2 (List.mem_of_getElem? (i := 28) (by decide +kernel))) rfl
theorem kw2_30 : (Jvm.Cond.instanceMethod ({ cls := "CodeQuiz$Machine", name := "doShare", desc := "(IIZ)V" } : Jvm.MethodName)) ∈ W0 := W0_of (lwt_2 (List.mem_of_getElem? (i := 30) (by decide +kernel))) rfl
theorem kw2_31 : (Jvm.Cond.code ({ cls := "CodeQuiz$Machine", name := "doShare", desc := "(IIZ)V" } : Jvm.MethodName) prog_2_method_10_code (5 : Nat) (Option.none : Option Jvm.ClassFile.FieldType)) ∈ W0 := W0_of (lwt_2 (List.mem_of_getElem? (i := 31) (by decide +kernel))) rfl
theorem kw2_32 : (Jvm.Cond.methodLink "CodeQuizLaw" (37 : Nat) ({ cls := "CodeQuiz", name := "told", desc := "(I)I" } : Jvm.MethodName)) ∈ W0 := W0_of (lwt_2 (List.mem_of_getElem? (i := 32) (by decide +kernel))) rfl
theorem kw2_33 : (Jvm.Cond.instanceMethod ({ cls := "CodeQuiz", name := "told", desc := "(I)I" } : Jvm.MethodName)) ∈ W0 := W0_of (lwt_2 (List.mem_of_getElem? (i := 33) (by decide +kernel))) rfl
theorem kw2_34 : (Jvm.Cond.selects "CodeQuiz" ({ cls := "CodeQuiz", name := "told", desc := "(I)I" } : Jvm.MethodName) ({ cls := "CodeQuiz", name := "told", desc := "(I)I" } : Jvm.MethodName)) ∈ W0 := W0_of (lwt_2 (List.mem_of_getElem? (i := 34) (by decide +kernel))) rfl
theorem kw2_35 : (Jvm.Cond.code ({ cls := "CodeQuiz", name := "told", desc := "(I)I" } : Jvm.MethodName) prog_1_method_7_code (2 : Nat) (Option.some Jvm.ClassFile.FieldType.int)) ∈ W0 := W0_of (lwt_2 (List.mem_of_getElem? (i := 35) (by decide +kernel))) rfl
theorem kw2_38 : (Jvm.Cond.instanceMethod ({ cls := "CodeQuiz$Machine", name := "cellOf", desc := "(I)I" } : Jvm.MethodName)) ∈ W0 := W0_of (lwt_2 (List.mem_of_getElem? (i := 38) (by decide +kernel))) rfl
theorem kw2_39 : (Jvm.Cond.code ({ cls := "CodeQuiz$Machine", name := "cellOf", desc := "(I)I" } : Jvm.MethodName) prog_2_method_11_code (2 : Nat) (Option.some Jvm.ClassFile.FieldType.int)) ∈ W0 := W0_of (lwt_2 (List.mem_of_getElem? (i := 39) (by decide +kernel))) rfl
theorem kw2_42 : (Jvm.Cond.instanceMethod ({ cls := "CodeQuiz$Machine", name := "namesShare", desc := "()Z" } : Jvm.MethodName)) ∈ W0 := W0_of (lwt_2 (List.mem_of_getElem? (i := 42) (by decide +kernel))) rfl
theorem kw2_43 : (Jvm.Cond.code ({ cls := "CodeQuiz$Machine", name := "namesShare", desc := "()Z" } : Jvm.MethodName) prog_2_method_12_code (1 : Nat) (Option.some Jvm.ClassFile.FieldType.boolean)) ∈ W0 := W0_of (lwt_2 (List.mem_of_getElem? (i := 43) (by decide +kernel))) rfl
theorem kw2_44 : (Jvm.Cond.methodLink "CodeQuizLaw" (41 : Nat) ({ cls := "CodeQuiz", name := "done", desc := "(I)I" } : Jvm.MethodName)) ∈ W0 := W0_of (lwt_2 (List.mem_of_getElem? (i := 44) (by decide +kernel))) rfl
theorem kw2_45 : (Jvm.Cond.instanceMethod ({ cls := "CodeQuiz", name := "done", desc := "(I)I" } : Jvm.MethodName)) ∈ W0 := W0_of (lwt_2 (List.mem_of_getElem? (i := 45) (by decide +kernel))) rfl
theorem kw2_46 : (Jvm.Cond.selects "CodeQuiz" ({ cls := "CodeQuiz", name := "done", desc := "(I)I" } : Jvm.MethodName) ({ cls := "CodeQuiz", name := "done", desc := "(I)I" } : Jvm.MethodName)) ∈ W0 := W0_of (lwt_2 (List.mem_of_getElem? (i := 46) (by decide +kernel))) rfl
theorem kw2_47 : (Jvm.Cond.code ({ cls := "CodeQuiz", name := "done", desc := "(I)I" } : Jvm.MethodName) prog_1_method_8_code (2 : Nat) (Option.some Jvm.ClassFile.FieldType.int)) ∈ W0 := W0_of (lwt_2 (List.mem_of_getElem? (i := 47) (by decide +kernel))) rfl
theorem kw2_48 : (Jvm.Cond.methodLink "CodeQuizLaw" (45 : Nat) ({ cls := "CodeQuiz", name := "question", desc := "(IIII)I" } : Jvm.MethodName)) ∈ W0 := W0_of (lwt_2 (List.mem_of_getElem? (i := 48) (by decide +kernel))) rfl
theorem kw2_49 : (Jvm.Cond.instanceMethod ({ cls := "CodeQuiz", name := "question", desc := "(IIII)I" } : Jvm.MethodName)) ∈ W0 := W0_of (lwt_2 (List.mem_of_getElem? (i := 49) (by decide +kernel))) rfl
theorem kw2_50 : (Jvm.Cond.selects "CodeQuiz" ({ cls := "CodeQuiz", name := "question", desc := "(IIII)I" } : Jvm.MethodName) ({ cls := "CodeQuiz", name := "question", desc := "(IIII)I" } : Jvm.MethodName)) ∈ W0 := W0_of (lwt_2 (List.mem_of_getElem? (i := 50) (by decide +kernel))) rfl
theorem kw2_51 : (Jvm.Cond.code ({ cls := "CodeQuiz", name := "question", desc := "(IIII)I" } : Jvm.MethodName) prog_1_method_9_code (6 : Nat) (Option.some Jvm.ClassFile.FieldType.int)) ∈ W0 := W0_of (lwt_2 (List.mem_of_getElem? (i := 51) (by decide +kernel))) rfl
theorem kw2_52 : (Jvm.Cond.methodLink "CodeQuiz" (146 : Nat) ({ cls := "CodeQuiz", name := "isAskable", desc := "(LCodeQuiz$Program;II)Z" } : Jvm.MethodName)) ∈ W0 := W0_of (lwt_2 (List.mem_of_getElem? (i := 52) (by decide +kernel))) rfl
theorem kw2_53 : (Jvm.Cond.static ({ cls := "CodeQuiz", name := "isAskable", desc := "(LCodeQuiz$Program;II)Z" } : Jvm.MethodName)) ∈ W0 := W0_of (lwt_2 (List.mem_of_getElem? (i := 53) (by decide +kernel))) rfl
theorem kw2_54 : (Jvm.Cond.code ({ cls := "CodeQuiz", name := "isAskable", desc := "(LCodeQuiz$Program;II)Z" } : Jvm.MethodName) prog_1_method_34_code (3 : Nat) (Option.some Jvm.ClassFile.FieldType.boolean)) ∈ W0 := W0_of (lwt_2 (List.mem_of_getElem? (i := 54) (by decide +kernel))) rfl
theorem kw2_55 : (Jvm.Cond.instantiable "CodeQuiz$Question" (6 : Nat)) ∈ W0 := W0_of (lwt_2 (List.mem_of_getElem? (i := 55) (by decide +kernel))) rfl
theorem kw2_57 : (Jvm.Cond.instanceMethod ({ cls := "CodeQuiz$Question", name := "<init>", desc := "(LCodeQuiz$Program;III)V" } : Jvm.MethodName)) ∈ W0 := W0_of (lwt_2 (List.mem_of_getElem? (i := 57) (by decide +kernel))) rfl
theorem kw2_58 : (Jvm.Cond.code ({ cls := "CodeQuiz$Question", name := "<init>", desc := "(LCodeQuiz$Program;III)V" } : Jvm.MethodName) prog_5_method_1_code (5 : Nat) (Option.none : Option Jvm.ClassFile.FieldType)) ∈ W0 := W0_of (lwt_2 (List.mem_of_getElem? (i := 58) (by decide +kernel))) rfl
theorem kw2_59 : (Jvm.Cond.methodLink "CodeQuiz$Question" (3 : Nat) ({ cls := "java/lang/Object", name := "<init>", desc := "()V" } : Jvm.MethodName)) ∈ W0 := W0_of (lwt_2 (List.mem_of_getElem? (i := 59) (by decide +kernel))) rfl
theorem kw2_60 : (Jvm.Cond.fieldLink "CodeQuiz$Question" (15 : Nat) "CodeQuiz$Question" "program" "LCodeQuiz$Program;") ∈ W0 := W0_of (lwt_2 (List.mem_of_getElem? (i := 60) (by decide +kernel))) rfl
theorem kw2_62 : (Jvm.Cond.fieldLink "CodeQuiz$Question" (19 : Nat) "CodeQuiz$Question" "input" "I") ∈ W0 := W0_of (lwt_2 (List.mem_of_getElem? (i := 62) (by decide +kernel))) rfl
theorem kw2_64 : (Jvm.Cond.fieldLink "CodeQuiz$Question" (23 : Nat) "CodeQuiz$Question" "kind" "I") ∈ W0 := W0_of (lwt_2 (List.mem_of_getElem? (i := 64) (by decide +kernel))) rfl
theorem kw2_66 : (Jvm.Cond.fieldLink "CodeQuiz$Question" (26 : Nat) "CodeQuiz$Question" "what" "I") ∈ W0 := W0_of (lwt_2 (List.mem_of_getElem? (i := 66) (by decide +kernel))) rfl
theorem kw2_68 : (Jvm.Cond.fieldLink "CodeQuiz$Question" (9 : Nat) "CodeQuiz$Question" "answers" "[I") ∈ W0 := W0_of (lwt_2 (List.mem_of_getElem? (i := 68) (by decide +kernel))) rfl
theorem kw2_70 : (Jvm.Cond.fieldLink "CodeQuiz$Question" (29 : Nat) "CodeQuiz$Question" "known" "J") ∈ W0 := W0_of (lwt_2 (List.mem_of_getElem? (i := 70) (by decide +kernel))) rfl
theorem kw2_84 : (Jvm.Cond.methodLink "CodeQuizLaw" (49 : Nat) ({ cls := "CodeQuiz", name := "answer", desc := "(II)I" } : Jvm.MethodName)) ∈ W0 := W0_of (lwt_2 (List.mem_of_getElem? (i := 84) (by decide +kernel))) rfl
theorem kw2_85 : (Jvm.Cond.instanceMethod ({ cls := "CodeQuiz", name := "answer", desc := "(II)I" } : Jvm.MethodName)) ∈ W0 := W0_of (lwt_2 (List.mem_of_getElem? (i := 85) (by decide +kernel))) rfl
theorem kw2_86 : (Jvm.Cond.selects "CodeQuiz" ({ cls := "CodeQuiz", name := "answer", desc := "(II)I" } : Jvm.MethodName) ({ cls := "CodeQuiz", name := "answer", desc := "(II)I" } : Jvm.MethodName)) ∈ W0 := W0_of (lwt_2 (List.mem_of_getElem? (i := 86) (by decide +kernel))) rfl
theorem kw2_87 : (Jvm.Cond.code ({ cls := "CodeQuiz", name := "answer", desc := "(II)I" } : Jvm.MethodName) prog_1_method_10_code (4 : Nat) (Option.some Jvm.ClassFile.FieldType.int)) ∈ W0 := W0_of (lwt_2 (List.mem_of_getElem? (i := 87) (by decide +kernel))) rfl
theorem kw2_88 : (Jvm.Cond.methodLink "CodeQuiz" (156 : Nat) ({ cls := "CodeQuiz", name := "questionAt", desc := "(I)LCodeQuiz$Question;" } : Jvm.MethodName)) ∈ W0 := W0_of (lwt_2 (List.mem_of_getElem? (i := 88) (by decide +kernel))) rfl
theorem kw2_90 : (Jvm.Cond.instanceMethod ({ cls := "CodeQuiz", name := "questionAt", desc := "(I)LCodeQuiz$Question;" } : Jvm.MethodName)) ∈ W0 := W0_of (lwt_2 (List.mem_of_getElem? (i := 90) (by decide +kernel))) rfl
theorem kw2_91 : (Jvm.Cond.code ({ cls := "CodeQuiz", name := "questionAt", desc := "(I)LCodeQuiz$Question;" } : Jvm.MethodName) prog_1_method_26_code (2 : Nat) (Option.some (Jvm.ClassFile.FieldType.object "CodeQuiz$Question"))) ∈ W0 := W0_of (lwt_2 (List.mem_of_getElem? (i := 91) (by decide +kernel))) rfl
theorem kw2_92 : (Jvm.Cond.methodLink "CodeQuiz" (160 : Nat) ({ cls := "CodeQuiz", name := "answerBy", desc := "(LCodeQuiz$Question;I)I" } : Jvm.MethodName)) ∈ W0 := W0_of (lwt_2 (List.mem_of_getElem? (i := 92) (by decide +kernel))) rfl
theorem kw2_94 : (Jvm.Cond.instanceMethod ({ cls := "CodeQuiz", name := "answerBy", desc := "(LCodeQuiz$Question;I)I" } : Jvm.MethodName)) ∈ W0 := W0_of (lwt_2 (List.mem_of_getElem? (i := 94) (by decide +kernel))) rfl
theorem kw2_95 : (Jvm.Cond.code ({ cls := "CodeQuiz", name := "answerBy", desc := "(LCodeQuiz$Question;I)I" } : Jvm.MethodName) prog_1_method_35_code (3 : Nat) (Option.some Jvm.ClassFile.FieldType.int)) ∈ W0 := W0_of (lwt_2 (List.mem_of_getElem? (i := 95) (by decide +kernel))) rfl
theorem kw2_98 : (Jvm.Cond.instanceMethod ({ cls := "CodeQuiz$Question", name := "knows", desc := "(I)Z" } : Jvm.MethodName)) ∈ W0 := W0_of (lwt_2 (List.mem_of_getElem? (i := 98) (by decide +kernel))) rfl
theorem kw2_99 : (Jvm.Cond.code ({ cls := "CodeQuiz$Question", name := "knows", desc := "(I)Z" } : Jvm.MethodName) prog_5_method_2_code (2 : Nat) (Option.some Jvm.ClassFile.FieldType.boolean)) ∈ W0 := W0_of (lwt_2 (List.mem_of_getElem? (i := 99) (by decide +kernel))) rfl
theorem kw2_101 : (Jvm.Cond.static ({ cls := "CodeQuiz", name := "hasBit", desc := "(JI)Z" } : Jvm.MethodName)) ∈ W0 := W0_of (lwt_2 (List.mem_of_getElem? (i := 101) (by decide +kernel))) rfl
theorem kw2_102 : (Jvm.Cond.code ({ cls := "CodeQuiz", name := "hasBit", desc := "(JI)Z" } : Jvm.MethodName) prog_1_method_47_code (3 : Nat) (Option.some Jvm.ClassFile.FieldType.boolean)) ∈ W0 := W0_of (lwt_2 (List.mem_of_getElem? (i := 102) (by decide +kernel))) rfl
theorem kw2_105 : (Jvm.Cond.instanceMethod ({ cls := "CodeQuiz$Machine", name := "answerTo", desc := "(II)I" } : Jvm.MethodName)) ∈ W0 := W0_of (lwt_2 (List.mem_of_getElem? (i := 105) (by decide +kernel))) rfl
theorem kw2_106 : (Jvm.Cond.code ({ cls := "CodeQuiz$Machine", name := "answerTo", desc := "(II)I" } : Jvm.MethodName) prog_2_method_13_code (3 : Nat) (Option.some Jvm.ClassFile.FieldType.int)) ∈ W0 := W0_of (lwt_2 (List.mem_of_getElem? (i := 106) (by decide +kernel))) rfl
theorem kw2_107 : (Jvm.Cond.methodLink "CodeQuiz$Machine" (96 : Nat) ({ cls := "CodeQuiz$Machine", name := "cellOf", desc := "(I)I" } : Jvm.MethodName)) ∈ W0 := W0_of (lwt_2 (List.mem_of_getElem? (i := 107) (by decide +kernel))) rfl
theorem kw2_110 : (Jvm.Cond.instanceMethod ({ cls := "CodeQuiz$Question", name := "keep", desc := "(II)V" } : Jvm.MethodName)) ∈ W0 := W0_of (lwt_2 (List.mem_of_getElem? (i := 110) (by decide +kernel))) rfl
theorem kw2_111 : (Jvm.Cond.code ({ cls := "CodeQuiz$Question", name := "keep", desc := "(II)V" } : Jvm.MethodName) prog_5_method_3_code (3 : Nat) (Option.none : Option Jvm.ClassFile.FieldType)) ∈ W0 := W0_of (lwt_2 (List.mem_of_getElem? (i := 111) (by decide +kernel))) rfl
theorem kw2_112 : (Jvm.Cond.methodLink "CodeQuizLaw" (54 : Nat) ({ cls := "CodeQuiz", name := "choices", desc := "(II)I" } : Jvm.MethodName)) ∈ W0 := W0_of (lwt_2 (List.mem_of_getElem? (i := 112) (by decide +kernel))) rfl
theorem kw2_113 : (Jvm.Cond.instanceMethod ({ cls := "CodeQuiz", name := "choices", desc := "(II)I" } : Jvm.MethodName)) ∈ W0 := W0_of (lwt_2 (List.mem_of_getElem? (i := 113) (by decide +kernel))) rfl
theorem kw2_114 : (Jvm.Cond.selects "CodeQuiz" ({ cls := "CodeQuiz", name := "choices", desc := "(II)I" } : Jvm.MethodName) ({ cls := "CodeQuiz", name := "choices", desc := "(II)I" } : Jvm.MethodName)) ∈ W0 := W0_of (lwt_2 (List.mem_of_getElem? (i := 114) (by decide +kernel))) rfl
theorem kw2_115 : (Jvm.Cond.code ({ cls := "CodeQuiz", name := "choices", desc := "(II)I" } : Jvm.MethodName) prog_1_method_11_code (4 : Nat) (Option.some Jvm.ClassFile.FieldType.int)) ∈ W0 := W0_of (lwt_2 (List.mem_of_getElem? (i := 115) (by decide +kernel))) rfl
theorem kw2_116 : (Jvm.Cond.methodLink "CodeQuiz" (164 : Nat) ({ cls := "CodeQuiz", name := "listChoices", desc := "(LCodeQuiz$Question;)I" } : Jvm.MethodName)) ∈ W0 := W0_of (lwt_2 (List.mem_of_getElem? (i := 116) (by decide +kernel))) rfl
theorem kw2_118 : (Jvm.Cond.instanceMethod ({ cls := "CodeQuiz", name := "listChoices", desc := "(LCodeQuiz$Question;)I" } : Jvm.MethodName)) ∈ W0 := W0_of (lwt_2 (List.mem_of_getElem? (i := 118) (by decide +kernel))) rfl
theorem kw2_119 : (Jvm.Cond.code ({ cls := "CodeQuiz", name := "listChoices", desc := "(LCodeQuiz$Question;)I" } : Jvm.MethodName) prog_1_method_36_code (5 : Nat) (Option.some Jvm.ClassFile.FieldType.int)) ∈ W0 := W0_of (lwt_2 (List.mem_of_getElem? (i := 119) (by decide +kernel))) rfl
theorem kw2_120 : (Jvm.Cond.methodLink "CodeQuiz" (271 : Nat) ({ cls := "CodeQuiz", name := "singleMachine", desc := "(I)I" } : Jvm.MethodName)) ∈ W0 := W0_of (lwt_2 (List.mem_of_getElem? (i := 120) (by decide +kernel))) rfl
theorem kw2_121 : (Jvm.Cond.static ({ cls := "CodeQuiz", name := "singleMachine", desc := "(I)I" } : Jvm.MethodName)) ∈ W0 := W0_of (lwt_2 (List.mem_of_getElem? (i := 121) (by decide +kernel))) rfl
theorem kw2_122 : (Jvm.Cond.code ({ cls := "CodeQuiz", name := "singleMachine", desc := "(I)I" } : Jvm.MethodName) prog_1_method_38_code (1 : Nat) (Option.some Jvm.ClassFile.FieldType.int)) ∈ W0 := W0_of (lwt_2 (List.mem_of_getElem? (i := 122) (by decide +kernel))) rfl
theorem kw2_123 : (Jvm.Cond.methodLink "CodeQuiz" (274 : Nat) ({ cls := "CodeQuiz", name := "isListed", desc := "(II)Z" } : Jvm.MethodName)) ∈ W0 := W0_of (lwt_2 (List.mem_of_getElem? (i := 123) (by decide +kernel))) rfl
theorem kw2_125 : (Jvm.Cond.instanceMethod ({ cls := "CodeQuiz", name := "isListed", desc := "(II)Z" } : Jvm.MethodName)) ∈ W0 := W0_of (lwt_2 (List.mem_of_getElem? (i := 125) (by decide +kernel))) rfl
theorem kw2_126 : (Jvm.Cond.code ({ cls := "CodeQuiz", name := "isListed", desc := "(II)Z" } : Jvm.MethodName) prog_1_method_37_code (4 : Nat) (Option.some Jvm.ClassFile.FieldType.boolean)) ∈ W0 := W0_of (lwt_2 (List.mem_of_getElem? (i := 126) (by decide +kernel))) rfl
theorem kw2_127 : (Jvm.Cond.methodLink "CodeQuizLaw" (58 : Nat) ({ cls := "CodeQuiz", name := "choice", desc := "(II)I" } : Jvm.MethodName)) ∈ W0 := W0_of (lwt_2 (List.mem_of_getElem? (i := 127) (by decide +kernel))) rfl
theorem kw2_128 : (Jvm.Cond.instanceMethod ({ cls := "CodeQuiz", name := "choice", desc := "(II)I" } : Jvm.MethodName)) ∈ W0 := W0_of (lwt_2 (List.mem_of_getElem? (i := 128) (by decide +kernel))) rfl
theorem kw2_129 : (Jvm.Cond.selects "CodeQuiz" ({ cls := "CodeQuiz", name := "choice", desc := "(II)I" } : Jvm.MethodName) ({ cls := "CodeQuiz", name := "choice", desc := "(II)I" } : Jvm.MethodName)) ∈ W0 := W0_of (lwt_2 (List.mem_of_getElem? (i := 129) (by decide +kernel))) rfl
theorem kw2_130 : (Jvm.Cond.code ({ cls := "CodeQuiz", name := "choice", desc := "(II)I" } : Jvm.MethodName) prog_1_method_12_code (4 : Nat) (Option.some Jvm.ClassFile.FieldType.int)) ∈ W0 := W0_of (lwt_2 (List.mem_of_getElem? (i := 130) (by decide +kernel))) rfl
theorem kw2_131 : (Jvm.Cond.methodLink "CodeQuizLaw" (62 : Nat) ({ cls := "CodeQuiz", name := "gap", desc := "(II)I" } : Jvm.MethodName)) ∈ W0 := W0_of (lwt_2 (List.mem_of_getElem? (i := 131) (by decide +kernel))) rfl
theorem kw2_132 : (Jvm.Cond.instanceMethod ({ cls := "CodeQuiz", name := "gap", desc := "(II)I" } : Jvm.MethodName)) ∈ W0 := W0_of (lwt_2 (List.mem_of_getElem? (i := 132) (by decide +kernel))) rfl
theorem kw2_133 : (Jvm.Cond.selects "CodeQuiz" ({ cls := "CodeQuiz", name := "gap", desc := "(II)I" } : Jvm.MethodName) ({ cls := "CodeQuiz", name := "gap", desc := "(II)I" } : Jvm.MethodName)) ∈ W0 := W0_of (lwt_2 (List.mem_of_getElem? (i := 133) (by decide +kernel))) rfl
theorem kw2_134 : (Jvm.Cond.code ({ cls := "CodeQuiz", name := "gap", desc := "(II)I" } : Jvm.MethodName) prog_1_method_13_code (4 : Nat) (Option.some Jvm.ClassFile.FieldType.int)) ∈ W0 := W0_of (lwt_2 (List.mem_of_getElem? (i := 134) (by decide +kernel))) rfl
theorem kw2_135 : (Jvm.Cond.methodLink "CodeQuiz" (174 : Nat) ({ cls := "CodeQuiz", name := "findFillings", desc := "(LCodeQuiz$Program;I)J" } : Jvm.MethodName)) ∈ W0 := W0_of (lwt_2 (List.mem_of_getElem? (i := 135) (by decide +kernel))) rfl
theorem kw2_137 : (Jvm.Cond.instanceMethod ({ cls := "CodeQuiz", name := "findFillings", desc := "(LCodeQuiz$Program;I)J" } : Jvm.MethodName)) ∈ W0 := W0_of (lwt_2 (List.mem_of_getElem? (i := 137) (by decide +kernel))) rfl
theorem kw2_138 : (Jvm.Cond.code ({ cls := "CodeQuiz", name := "findFillings", desc := "(LCodeQuiz$Program;I)J" } : Jvm.MethodName) prog_1_method_39_code (6 : Nat) (Option.some Jvm.ClassFile.FieldType.long)) ∈ W0 := W0_of (lwt_2 (List.mem_of_getElem? (i := 138) (by decide +kernel))) rfl
theorem kw2_139 : (Jvm.Cond.constantLong "CodeQuiz" (278 : Nat) (524287 : Int64)) ∈ W0 := W0_of (lwt_2 (List.mem_of_getElem? (i := 139) (by decide +kernel))) rfl
theorem kw2_140 : (Jvm.Cond.methodLink "CodeQuiz" (280 : Nat) ({ cls := "CodeQuiz", name := "fillingsThatEndAlike", desc := "(LCodeQuiz$Program;IIJ)J" } : Jvm.MethodName)) ∈ W0 := W0_of (lwt_2 (List.mem_of_getElem? (i := 140) (by decide +kernel))) rfl
theorem kw2_142 : (Jvm.Cond.instanceMethod ({ cls := "CodeQuiz", name := "fillingsThatEndAlike", desc := "(LCodeQuiz$Program;IIJ)J" } : Jvm.MethodName)) ∈ W0 := W0_of (lwt_2 (List.mem_of_getElem? (i := 142) (by decide +kernel))) rfl
theorem kw2_143 : (Jvm.Cond.code ({ cls := "CodeQuiz", name := "fillingsThatEndAlike", desc := "(LCodeQuiz$Program;IIJ)J" } : Jvm.MethodName) prog_1_method_40_code (10 : Nat) (Option.some Jvm.ClassFile.FieldType.long)) ∈ W0 := W0_of (lwt_2 (List.mem_of_getElem? (i := 143) (by decide +kernel))) rfl
theorem kw2_144 : (Jvm.Cond.methodLink "CodeQuiz" (284 : Nat) ({ cls := "CodeQuiz", name := "hasBit", desc := "(JI)Z" } : Jvm.MethodName)) ∈ W0 := W0_of (lwt_2 (List.mem_of_getElem? (i := 144) (by decide +kernel))) rfl
theorem kw2_147 : (Jvm.Cond.instanceMethod ({ cls := "CodeQuiz$Machine", name := "endsLike", desc := "(LCodeQuiz$Machine;)Z" } : Jvm.MethodName)) ∈ W0 := W0_of (lwt_2 (List.mem_of_getElem? (i := 147) (by decide +kernel))) rfl
theorem kw2_148 : (Jvm.Cond.code ({ cls := "CodeQuiz$Machine", name := "endsLike", desc := "(LCodeQuiz$Machine;)Z" } : Jvm.MethodName) prog_2_method_15_code (3 : Nat) (Option.some Jvm.ClassFile.FieldType.boolean)) ∈ W0 := W0_of (lwt_2 (List.mem_of_getElem? (i := 148) (by decide +kernel))) rfl
theorem kw2_149 : (Jvm.Cond.methodLink "CodeQuiz$Machine" (100 : Nat) ({ cls := "CodeQuiz$Machine", name := "endsWithVariablesOf", desc := "(LCodeQuiz$Machine;)Z" } : Jvm.MethodName)) ∈ W0 := W0_of (lwt_2 (List.mem_of_getElem? (i := 149) (by decide +kernel))) rfl
theorem kw2_151 : (Jvm.Cond.instanceMethod ({ cls := "CodeQuiz$Machine", name := "endsWithVariablesOf", desc := "(LCodeQuiz$Machine;)Z" } : Jvm.MethodName)) ∈ W0 := W0_of (lwt_2 (List.mem_of_getElem? (i := 151) (by decide +kernel))) rfl
theorem kw2_152 : (Jvm.Cond.code ({ cls := "CodeQuiz$Machine", name := "endsWithVariablesOf", desc := "(LCodeQuiz$Machine;)Z" } : Jvm.MethodName) prog_2_method_14_code (3 : Nat) (Option.some Jvm.ClassFile.FieldType.boolean)) ∈ W0 := W0_of (lwt_2 (List.mem_of_getElem? (i := 152) (by decide +kernel))) rfl
theorem kw2_153 : (Jvm.Cond.constantLong "CodeQuiz" (291 : Nat) (-1 : Int64)) ∈ W0 := W0_of (lwt_2 (List.mem_of_getElem? (i := 153) (by decide +kernel))) rfl
theorem kw2_154 : (Jvm.Cond.methodLink "CodeQuiz" (182 : Nat) ({ cls := "java/lang/Long", name := "bitCount", desc := "(J)I" } : Jvm.MethodName)) ∈ W0 := W0_of (lwt_2 (List.mem_of_getElem? (i := 154) (by decide +kernel))) rfl
theorem kw2_155 : (Jvm.Cond.static ({ cls := "java/lang/Long", name := "bitCount", desc := "(J)I" } : Jvm.MethodName)) ∈ W0 := W0_of (lwt_2 (List.mem_of_getElem? (i := 155) (by decide +kernel))) rfl
theorem kw2_156 : (Jvm.Cond.code ({ cls := "java/lang/Long", name := "bitCount", desc := "(J)I" } : Jvm.MethodName) prog_9_method_50_code (2 : Nat) (Option.some Jvm.ClassFile.FieldType.int)) ∈ W0 := W0_of (lwt_2 (List.mem_of_getElem? (i := 156) (by decide +kernel))) rfl
theorem kw2_157 : (Jvm.Cond.constantLong "java/lang/Long" (314 : Nat) (6148914691236517205 : Int64)) ∈ W0 := W0_of (lwt_2 (List.mem_of_getElem? (i := 157) (by decide +kernel))) rfl
theorem kw2_158 : (Jvm.Cond.constantLong "java/lang/Long" (316 : Nat) (3689348814741910323 : Int64)) ∈ W0 := W0_of (lwt_2 (List.mem_of_getElem? (i := 158) (by decide +kernel))) rfl
theorem kw2_159 : (Jvm.Cond.constantLong "java/lang/Long" (318 : Nat) (1085102592571150095 : Int64)) ∈ W0 := W0_of (lwt_2 (List.mem_of_getElem? (i := 159) (by decide +kernel))) rfl
theorem kw2_160 : (Jvm.Cond.methodLink "CodeQuizLaw" (66 : Nat) ({ cls := "CodeQuiz", name := "filling", desc := "(I)I" } : Jvm.MethodName)) ∈ W0 := W0_of (lwt_2 (List.mem_of_getElem? (i := 160) (by decide +kernel))) rfl
theorem kw2_161 : (Jvm.Cond.instanceMethod ({ cls := "CodeQuiz", name := "filling", desc := "(I)I" } : Jvm.MethodName)) ∈ W0 := W0_of (lwt_2 (List.mem_of_getElem? (i := 161) (by decide +kernel))) rfl
theorem kw2_162 : (Jvm.Cond.selects "CodeQuiz" ({ cls := "CodeQuiz", name := "filling", desc := "(I)I" } : Jvm.MethodName) ({ cls := "CodeQuiz", name := "filling", desc := "(I)I" } : Jvm.MethodName)) ∈ W0 := W0_of (lwt_2 (List.mem_of_getElem? (i := 162) (by decide +kernel))) rfl
theorem kw2_163 : (Jvm.Cond.code ({ cls := "CodeQuiz", name := "filling", desc := "(I)I" } : Jvm.MethodName) prog_1_method_14_code (3 : Nat) (Option.some Jvm.ClassFile.FieldType.int)) ∈ W0 := W0_of (lwt_2 (List.mem_of_getElem? (i := 163) (by decide +kernel))) rfl
theorem kw2_164 : (Jvm.Cond.methodLink "CodeQuiz" (188 : Nat) ({ cls := "CodeQuiz", name := "bitAt", desc := "(JI)I" } : Jvm.MethodName)) ∈ W0 := W0_of (lwt_2 (List.mem_of_getElem? (i := 164) (by decide +kernel))) rfl
theorem kw2_165 : (Jvm.Cond.static ({ cls := "CodeQuiz", name := "bitAt", desc := "(JI)I" } : Jvm.MethodName)) ∈ W0 := W0_of (lwt_2 (List.mem_of_getElem? (i := 165) (by decide +kernel))) rfl
theorem kw2_166 : (Jvm.Cond.code ({ cls := "CodeQuiz", name := "bitAt", desc := "(JI)I" } : Jvm.MethodName) prog_1_method_48_code (5 : Nat) (Option.some Jvm.ClassFile.FieldType.int)) ∈ W0 := W0_of (lwt_2 (List.mem_of_getElem? (i := 166) (by decide +kernel))) rfl
theorem kw2_167 : (Jvm.Cond.methodLink "CodeQuizLaw" (70 : Nat) ({ cls := "CodeQuiz", name := "why", desc := "(II)I" } : Jvm.MethodName)) ∈ W0 := W0_of (lwt_2 (List.mem_of_getElem? (i := 167) (by decide +kernel))) rfl
theorem kw2_168 : (Jvm.Cond.instanceMethod ({ cls := "CodeQuiz", name := "why", desc := "(II)I" } : Jvm.MethodName)) ∈ W0 := W0_of (lwt_2 (List.mem_of_getElem? (i := 168) (by decide +kernel))) rfl
theorem kw2_169 : (Jvm.Cond.selects "CodeQuiz" ({ cls := "CodeQuiz", name := "why", desc := "(II)I" } : Jvm.MethodName) ({ cls := "CodeQuiz", name := "why", desc := "(II)I" } : Jvm.MethodName)) ∈ W0 := W0_of (lwt_2 (List.mem_of_getElem? (i := 169) (by decide +kernel))) rfl
theorem kw2_170 : (Jvm.Cond.code ({ cls := "CodeQuiz", name := "why", desc := "(II)I" } : Jvm.MethodName) prog_1_method_15_code (6 : Nat) (Option.some Jvm.ClassFile.FieldType.int)) ∈ W0 := W0_of (lwt_2 (List.mem_of_getElem? (i := 170) (by decide +kernel))) rfl
theorem kw2_171 : (Jvm.Cond.methodLink "CodeQuizLaw" (74 : Nat) ({ cls := "CodeQuiz", name := "same", desc := "(II)I" } : Jvm.MethodName)) ∈ W0 := W0_of (lwt_2 (List.mem_of_getElem? (i := 171) (by decide +kernel))) rfl
theorem kw2_172 : (Jvm.Cond.instanceMethod ({ cls := "CodeQuiz", name := "same", desc := "(II)I" } : Jvm.MethodName)) ∈ W0 := W0_of (lwt_2 (List.mem_of_getElem? (i := 172) (by decide +kernel))) rfl
theorem kw2_173 : (Jvm.Cond.selects "CodeQuiz" ({ cls := "CodeQuiz", name := "same", desc := "(II)I" } : Jvm.MethodName) ({ cls := "CodeQuiz", name := "same", desc := "(II)I" } : Jvm.MethodName)) ∈ W0 := W0_of (lwt_2 (List.mem_of_getElem? (i := 173) (by decide +kernel))) rfl
theorem kw2_174 : (Jvm.Cond.code ({ cls := "CodeQuiz", name := "same", desc := "(II)I" } : Jvm.MethodName) prog_1_method_16_code (6 : Nat) (Option.some Jvm.ClassFile.FieldType.int)) ∈ W0 := W0_of (lwt_2 (List.mem_of_getElem? (i := 174) (by decide +kernel))) rfl
theorem kw2_176 : (Jvm.Cond.methodLink "CodeQuizLaw" (78 : Nat) ({ cls := "CodeQuiz", name := "give", desc := "(III)I" } : Jvm.MethodName)) ∈ W0 := W0_of (lwt_2 (List.mem_of_getElem? (i := 176) (by decide +kernel))) rfl
theorem kw2_177 : (Jvm.Cond.instanceMethod ({ cls := "CodeQuiz", name := "give", desc := "(III)I" } : Jvm.MethodName)) ∈ W0 := W0_of (lwt_2 (List.mem_of_getElem? (i := 177) (by decide +kernel))) rfl
theorem kw2_178 : (Jvm.Cond.selects "CodeQuiz" ({ cls := "CodeQuiz", name := "give", desc := "(III)I" } : Jvm.MethodName) ({ cls := "CodeQuiz", name := "give", desc := "(III)I" } : Jvm.MethodName)) ∈ W0 := W0_of (lwt_2 (List.mem_of_getElem? (i := 178) (by decide +kernel))) rfl
theorem kw2_179 : (Jvm.Cond.code ({ cls := "CodeQuiz", name := "give", desc := "(III)I" } : Jvm.MethodName) prog_1_method_17_code (4 : Nat) (Option.some Jvm.ClassFile.FieldType.int)) ∈ W0 := W0_of (lwt_2 (List.mem_of_getElem? (i := 179) (by decide +kernel))) rfl
theorem kw2_180 : (Jvm.Cond.methodLink "CodeQuiz" (206 : Nat) ({ cls := "CodeQuiz", name := "isPupil", desc := "(I)Z" } : Jvm.MethodName)) ∈ W0 := W0_of (lwt_2 (List.mem_of_getElem? (i := 180) (by decide +kernel))) rfl
theorem kw2_181 : (Jvm.Cond.static ({ cls := "CodeQuiz", name := "isPupil", desc := "(I)Z" } : Jvm.MethodName)) ∈ W0 := W0_of (lwt_2 (List.mem_of_getElem? (i := 181) (by decide +kernel))) rfl
theorem kw2_182 : (Jvm.Cond.code ({ cls := "CodeQuiz", name := "isPupil", desc := "(I)Z" } : Jvm.MethodName) prog_1_method_27_code (1 : Nat) (Option.some Jvm.ClassFile.FieldType.boolean)) ∈ W0 := W0_of (lwt_2 (List.mem_of_getElem? (i := 182) (by decide +kernel))) rfl
theorem kw2_185 : (Jvm.Cond.instanceMethod ({ cls := "CodeQuiz$Pupil", name := "note", desc := "(II)I" } : Jvm.MethodName)) ∈ W0 := W0_of (lwt_2 (List.mem_of_getElem? (i := 185) (by decide +kernel))) rfl
theorem kw2_186 : (Jvm.Cond.code ({ cls := "CodeQuiz$Pupil", name := "note", desc := "(II)I" } : Jvm.MethodName) prog_4_method_3_code (3 : Nat) (Option.some Jvm.ClassFile.FieldType.int)) ∈ W0 := W0_of (lwt_2 (List.mem_of_getElem? (i := 186) (by decide +kernel))) rfl
theorem kw2_187 : (Jvm.Cond.methodLink "CodeQuiz$Pupil" (23 : Nat) ({ cls := "java/lang/Long", name := "bitCount", desc := "(J)I" } : Jvm.MethodName)) ∈ W0 := W0_of (lwt_2 (List.mem_of_getElem? (i := 187) (by decide +kernel))) rfl
theorem kw2_188 : (Jvm.Cond.methodLink "CodeQuizLaw" (82 : Nat) ({ cls := "CodeQuiz", name := "price", desc := "(II)I" } : Jvm.MethodName)) ∈ W0 := W0_of (lwt_2 (List.mem_of_getElem? (i := 188) (by decide +kernel))) rfl
theorem kw2_189 : (Jvm.Cond.instanceMethod ({ cls := "CodeQuiz", name := "price", desc := "(II)I" } : Jvm.MethodName)) ∈ W0 := W0_of (lwt_2 (List.mem_of_getElem? (i := 189) (by decide +kernel))) rfl
theorem kw2_190 : (Jvm.Cond.selects "CodeQuiz" ({ cls := "CodeQuiz", name := "price", desc := "(II)I" } : Jvm.MethodName) ({ cls := "CodeQuiz", name := "price", desc := "(II)I" } : Jvm.MethodName)) ∈ W0 := W0_of (lwt_2 (List.mem_of_getElem? (i := 190) (by decide +kernel))) rfl
theorem kw2_191 : (Jvm.Cond.code ({ cls := "CodeQuiz", name := "price", desc := "(II)I" } : Jvm.MethodName) prog_1_method_18_code (4 : Nat) (Option.some Jvm.ClassFile.FieldType.int)) ∈ W0 := W0_of (lwt_2 (List.mem_of_getElem? (i := 191) (by decide +kernel))) rfl
theorem kw2_192 : (Jvm.Cond.methodLink "CodeQuizLaw" (86 : Nat) ({ cls := "CodeQuiz", name := "cost", desc := "(II)I" } : Jvm.MethodName)) ∈ W0 := W0_of (lwt_2 (List.mem_of_getElem? (i := 192) (by decide +kernel))) rfl
theorem kw2_193 : (Jvm.Cond.instanceMethod ({ cls := "CodeQuiz", name := "cost", desc := "(II)I" } : Jvm.MethodName)) ∈ W0 := W0_of (lwt_2 (List.mem_of_getElem? (i := 193) (by decide +kernel))) rfl
theorem kw2_194 : (Jvm.Cond.selects "CodeQuiz" ({ cls := "CodeQuiz", name := "cost", desc := "(II)I" } : Jvm.MethodName) ({ cls := "CodeQuiz", name := "cost", desc := "(II)I" } : Jvm.MethodName)) ∈ W0 := W0_of (lwt_2 (List.mem_of_getElem? (i := 194) (by decide +kernel))) rfl
theorem kw2_195 : (Jvm.Cond.code ({ cls := "CodeQuiz", name := "cost", desc := "(II)I" } : Jvm.MethodName) prog_1_method_19_code (3 : Nat) (Option.some Jvm.ClassFile.FieldType.int)) ∈ W0 := W0_of (lwt_2 (List.mem_of_getElem? (i := 195) (by decide +kernel))) rfl
theorem kw2_196 : (Jvm.Cond.methodLink "CodeQuiz" (213 : Nat) ({ cls := "java/lang/Integer", name := "bitCount", desc := "(I)I" } : Jvm.MethodName)) ∈ W0 := W0_of (lwt_2 (List.mem_of_getElem? (i := 196) (by decide +kernel))) rfl
theorem kw2_197 : (Jvm.Cond.static ({ cls := "java/lang/Integer", name := "bitCount", desc := "(I)I" } : Jvm.MethodName)) ∈ W0 := W0_of (lwt_2 (List.mem_of_getElem? (i := 197) (by decide +kernel))) rfl
theorem kw2_198 : (Jvm.Cond.code ({ cls := "java/lang/Integer", name := "bitCount", desc := "(I)I" } : Jvm.MethodName) prog_8_method_49_code (1 : Nat) (Option.some Jvm.ClassFile.FieldType.int)) ∈ W0 := W0_of (lwt_2 (List.mem_of_getElem? (i := 198) (by decide +kernel))) rfl
theorem kw2_199 : (Jvm.Cond.constant "java/lang/Integer" (265 : Nat) (1431655765 : Int32)) ∈ W0 := W0_of (lwt_2 (List.mem_of_getElem? (i := 199) (by decide +kernel))) rfl
theorem kw2_200 : (Jvm.Cond.constant "java/lang/Integer" (266 : Nat) (858993459 : Int32)) ∈ W0 := W0_of (lwt_2 (List.mem_of_getElem? (i := 200) (by decide +kernel))) rfl
theorem kw2_201 : (Jvm.Cond.constant "java/lang/Integer" (267 : Nat) (252645135 : Int32)) ∈ W0 := W0_of (lwt_2 (List.mem_of_getElem? (i := 201) (by decide +kernel))) rfl
theorem kw2_202 : (Jvm.Cond.methodLink "CodeQuiz" (217 : Nat) ({ cls := "CodeQuiz", name := "costOf", desc := "(LCodeQuiz$Pupil;I)I" } : Jvm.MethodName)) ∈ W0 := W0_of (lwt_2 (List.mem_of_getElem? (i := 202) (by decide +kernel))) rfl
theorem kw2_204 : (Jvm.Cond.instanceMethod ({ cls := "CodeQuiz", name := "costOf", desc := "(LCodeQuiz$Pupil;I)I" } : Jvm.MethodName)) ∈ W0 := W0_of (lwt_2 (List.mem_of_getElem? (i := 204) (by decide +kernel))) rfl
theorem kw2_205 : (Jvm.Cond.code ({ cls := "CodeQuiz", name := "costOf", desc := "(LCodeQuiz$Pupil;I)I" } : Jvm.MethodName) prog_1_method_41_code (5 : Nat) (Option.some Jvm.ClassFile.FieldType.int)) ∈ W0 := W0_of (lwt_2 (List.mem_of_getElem? (i := 205) (by decide +kernel))) rfl
theorem kw2_208 : (Jvm.Cond.instanceMethod ({ cls := "CodeQuiz$Pupil", name := "hasAnswered", desc := "(I)Z" } : Jvm.MethodName)) ∈ W0 := W0_of (lwt_2 (List.mem_of_getElem? (i := 208) (by decide +kernel))) rfl
theorem kw2_209 : (Jvm.Cond.code ({ cls := "CodeQuiz$Pupil", name := "hasAnswered", desc := "(I)Z" } : Jvm.MethodName) prog_4_method_2_code (2 : Nat) (Option.some Jvm.ClassFile.FieldType.boolean)) ∈ W0 := W0_of (lwt_2 (List.mem_of_getElem? (i := 209) (by decide +kernel))) rfl
theorem kw2_211 : (Jvm.Cond.methodLink "CodeQuizLaw" (90 : Nat) ({ cls := "CodeQuiz", name := "sets", desc := "(I)I" } : Jvm.MethodName)) ∈ W0 := W0_of (lwt_2 (List.mem_of_getElem? (i := 211) (by decide +kernel))) rfl
theorem kw2_212 : (Jvm.Cond.instanceMethod ({ cls := "CodeQuiz", name := "sets", desc := "(I)I" } : Jvm.MethodName)) ∈ W0 := W0_of (lwt_2 (List.mem_of_getElem? (i := 212) (by decide +kernel))) rfl
theorem kw2_213 : (Jvm.Cond.selects "CodeQuiz" ({ cls := "CodeQuiz", name := "sets", desc := "(I)I" } : Jvm.MethodName) ({ cls := "CodeQuiz", name := "sets", desc := "(I)I" } : Jvm.MethodName)) ∈ W0 := W0_of (lwt_2 (List.mem_of_getElem? (i := 213) (by decide +kernel))) rfl
theorem kw2_214 : (Jvm.Cond.code ({ cls := "CodeQuiz", name := "sets", desc := "(I)I" } : Jvm.MethodName) prog_1_method_20_code (2 : Nat) (Option.some Jvm.ClassFile.FieldType.int)) ∈ W0 := W0_of (lwt_2 (List.mem_of_getElem? (i := 214) (by decide +kernel))) rfl
theorem kw2_215 : (Jvm.Cond.methodLink "CodeQuiz" (221 : Nat) ({ cls := "CodeQuiz", name := "findSets", desc := "(LCodeQuiz$Pupil;)J" } : Jvm.MethodName)) ∈ W0 := W0_of (lwt_2 (List.mem_of_getElem? (i := 215) (by decide +kernel))) rfl
theorem kw2_217 : (Jvm.Cond.instanceMethod ({ cls := "CodeQuiz", name := "findSets", desc := "(LCodeQuiz$Pupil;)J" } : Jvm.MethodName)) ∈ W0 := W0_of (lwt_2 (List.mem_of_getElem? (i := 217) (by decide +kernel))) rfl
theorem kw2_218 : (Jvm.Cond.code ({ cls := "CodeQuiz", name := "findSets", desc := "(LCodeQuiz$Pupil;)J" } : Jvm.MethodName) prog_1_method_42_code (7 : Nat) (Option.some Jvm.ClassFile.FieldType.long)) ∈ W0 := W0_of (lwt_2 (List.mem_of_getElem? (i := 218) (by decide +kernel))) rfl
theorem kw2_219 : (Jvm.Cond.constant "CodeQuiz" (296 : Nat) (1000000 : Int32)) ∈ W0 := W0_of (lwt_2 (List.mem_of_getElem? (i := 219) (by decide +kernel))) rfl
theorem kw2_220 : (Jvm.Cond.methodLink "CodeQuizLaw" (94 : Nat) ({ cls := "CodeQuiz", name := "set", desc := "(II)I" } : Jvm.MethodName)) ∈ W0 := W0_of (lwt_2 (List.mem_of_getElem? (i := 220) (by decide +kernel))) rfl
theorem kw2_221 : (Jvm.Cond.instanceMethod ({ cls := "CodeQuiz", name := "set", desc := "(II)I" } : Jvm.MethodName)) ∈ W0 := W0_of (lwt_2 (List.mem_of_getElem? (i := 221) (by decide +kernel))) rfl
theorem kw2_222 : (Jvm.Cond.selects "CodeQuiz" ({ cls := "CodeQuiz", name := "set", desc := "(II)I" } : Jvm.MethodName) ({ cls := "CodeQuiz", name := "set", desc := "(II)I" } : Jvm.MethodName)) ∈ W0 := W0_of (lwt_2 (List.mem_of_getElem? (i := 222) (by decide +kernel))) rfl
theorem kw2_223 : (Jvm.Cond.code ({ cls := "CodeQuiz", name := "set", desc := "(II)I" } : Jvm.MethodName) prog_1_method_21_code (4 : Nat) (Option.some Jvm.ClassFile.FieldType.int)) ∈ W0 := W0_of (lwt_2 (List.mem_of_getElem? (i := 223) (by decide +kernel))) rfl
theorem kw2_224 : (Jvm.Cond.methodLink "CodeQuizLaw" (98 : Nat) ({ cls := "CodeQuiz", name := "next", desc := "(I)I" } : Jvm.MethodName)) ∈ W0 := W0_of (lwt_2 (List.mem_of_getElem? (i := 224) (by decide +kernel))) rfl
theorem kw2_225 : (Jvm.Cond.instanceMethod ({ cls := "CodeQuiz", name := "next", desc := "(I)I" } : Jvm.MethodName)) ∈ W0 := W0_of (lwt_2 (List.mem_of_getElem? (i := 225) (by decide +kernel))) rfl
theorem kw2_226 : (Jvm.Cond.selects "CodeQuiz" ({ cls := "CodeQuiz", name := "next", desc := "(I)I" } : Jvm.MethodName) ({ cls := "CodeQuiz", name := "next", desc := "(I)I" } : Jvm.MethodName)) ∈ W0 := W0_of (lwt_2 (List.mem_of_getElem? (i := 226) (by decide +kernel))) rfl
theorem kw2_227 : (Jvm.Cond.code ({ cls := "CodeQuiz", name := "next", desc := "(I)I" } : Jvm.MethodName) prog_1_method_22_code (8 : Nat) (Option.some Jvm.ClassFile.FieldType.int)) ∈ W0 := W0_of (lwt_2 (List.mem_of_getElem? (i := 227) (by decide +kernel))) rfl
theorem kw2_228 : (Jvm.Cond.methodLink "CodeQuiz" (228 : Nat) ({ cls := "CodeQuiz", name := "listSetAnswers", desc := "(LCodeQuiz$Question;J)I" } : Jvm.MethodName)) ∈ W0 := W0_of (lwt_2 (List.mem_of_getElem? (i := 228) (by decide +kernel))) rfl
theorem kw2_230 : (Jvm.Cond.instanceMethod ({ cls := "CodeQuiz", name := "listSetAnswers", desc := "(LCodeQuiz$Question;J)I" } : Jvm.MethodName)) ∈ W0 := W0_of (lwt_2 (List.mem_of_getElem? (i := 230) (by decide +kernel))) rfl
theorem kw2_231 : (Jvm.Cond.code ({ cls := "CodeQuiz", name := "listSetAnswers", desc := "(LCodeQuiz$Question;J)I" } : Jvm.MethodName) prog_1_method_43_code (6 : Nat) (Option.some Jvm.ClassFile.FieldType.int)) ∈ W0 := W0_of (lwt_2 (List.mem_of_getElem? (i := 231) (by decide +kernel))) rfl
theorem kw2_232 : (Jvm.Cond.methodLink "CodeQuiz" (232 : Nat) ({ cls := "CodeQuiz", name := "mostAlike", desc := "(I)I" } : Jvm.MethodName)) ∈ W0 := W0_of (lwt_2 (List.mem_of_getElem? (i := 232) (by decide +kernel))) rfl
theorem kw2_234 : (Jvm.Cond.instanceMethod ({ cls := "CodeQuiz", name := "mostAlike", desc := "(I)I" } : Jvm.MethodName)) ∈ W0 := W0_of (lwt_2 (List.mem_of_getElem? (i := 234) (by decide +kernel))) rfl
theorem kw2_235 : (Jvm.Cond.code ({ cls := "CodeQuiz", name := "mostAlike", desc := "(I)I" } : Jvm.MethodName) prog_1_method_44_code (6 : Nat) (Option.some Jvm.ClassFile.FieldType.int)) ∈ W0 := W0_of (lwt_2 (List.mem_of_getElem? (i := 235) (by decide +kernel))) rfl
theorem kw2_236 : (Jvm.Cond.methodLink "CodeQuiz" (297 : Nat) ({ cls := "java/lang/Math", name := "max", desc := "(II)I" } : Jvm.MethodName)) ∈ W0 := W0_of (lwt_2 (List.mem_of_getElem? (i := 236) (by decide +kernel))) rfl
theorem kw2_237 : (Jvm.Cond.static ({ cls := "java/lang/Math", name := "max", desc := "(II)I" } : Jvm.MethodName)) ∈ W0 := W0_of (lwt_2 (List.mem_of_getElem? (i := 237) (by decide +kernel))) rfl
theorem kw2_238 : (Jvm.Cond.code ({ cls := "java/lang/Math", name := "max", desc := "(II)I" } : Jvm.MethodName) prog_10_method_65_code (2 : Nat) (Option.some Jvm.ClassFile.FieldType.int)) ∈ W0 := W0_of (lwt_2 (List.mem_of_getElem? (i := 238) (by decide +kernel))) rfl
theorem kw2_239 : (Jvm.Cond.methodLink "CodeQuizLaw" (102 : Nat) ({ cls := "CodeQuiz", name := "parting", desc := "()I" } : Jvm.MethodName)) ∈ W0 := W0_of (lwt_2 (List.mem_of_getElem? (i := 239) (by decide +kernel))) rfl
theorem kw3_0 : (Jvm.Cond.instanceMethod ({ cls := "CodeQuiz", name := "parting", desc := "()I" } : Jvm.MethodName)) ∈ W0 := W0_of (lwt_3 (List.mem_of_getElem? (i := 0) (by decide +kernel))) rfl
theorem kw3_1 : (Jvm.Cond.selects "CodeQuiz" ({ cls := "CodeQuiz", name := "parting", desc := "()I" } : Jvm.MethodName) ({ cls := "CodeQuiz", name := "parting", desc := "()I" } : Jvm.MethodName)) ∈ W0 := W0_of (lwt_3 (List.mem_of_getElem? (i := 1) (by decide +kernel))) rfl
theorem kw3_2 : (Jvm.Cond.code ({ cls := "CodeQuiz", name := "parting", desc := "()I" } : Jvm.MethodName) prog_1_method_23_code (5 : Nat) (Option.some Jvm.ClassFile.FieldType.int)) ∈ W0 := W0_of (lwt_3 (List.mem_of_getElem? (i := 2) (by decide +kernel))) rfl
theorem kw3_3 : (Jvm.Cond.methodLink "CodeQuiz" (235 : Nat) ({ cls := "java/lang/Math", name := "min", desc := "(II)I" } : Jvm.MethodName)) ∈ W0 := W0_of (lwt_3 (List.mem_of_getElem? (i := 3) (by decide +kernel))) rfl
theorem kw3_4 : (Jvm.Cond.static ({ cls := "java/lang/Math", name := "min", desc := "(II)I" } : Jvm.MethodName)) ∈ W0 := W0_of (lwt_3 (List.mem_of_getElem? (i := 4) (by decide +kernel))) rfl
theorem kw3_5 : (Jvm.Cond.code ({ cls := "java/lang/Math", name := "min", desc := "(II)I" } : Jvm.MethodName) prog_10_method_69_code (2 : Nat) (Option.some Jvm.ClassFile.FieldType.int)) ∈ W0 := W0_of (lwt_3 (List.mem_of_getElem? (i := 5) (by decide +kernel))) rfl
theorem kw3_6 : (Jvm.Cond.methodLink "CodeQuiz" (240 : Nat) ({ cls := "CodeQuiz", name := "pairsParted", desc := "(LCodeQuiz$Question;)I" } : Jvm.MethodName)) ∈ W0 := W0_of (lwt_3 (List.mem_of_getElem? (i := 6) (by decide +kernel))) rfl
theorem kw3_8 : (Jvm.Cond.instanceMethod ({ cls := "CodeQuiz", name := "pairsParted", desc := "(LCodeQuiz$Question;)I" } : Jvm.MethodName)) ∈ W0 := W0_of (lwt_3 (List.mem_of_getElem? (i := 8) (by decide +kernel))) rfl
theorem kw3_9 : (Jvm.Cond.code ({ cls := "CodeQuiz", name := "pairsParted", desc := "(LCodeQuiz$Question;)I" } : Jvm.MethodName) prog_1_method_45_code (6 : Nat) (Option.some Jvm.ClassFile.FieldType.int)) ∈ W0 := W0_of (lwt_3 (List.mem_of_getElem? (i := 9) (by decide +kernel))) rfl
theorem kw3_10 : (Jvm.Cond.methodLink "CodeQuiz" (243 : Nat) ({ cls := "CodeQuiz", name := "partsAll", desc := "(I)Z" } : Jvm.MethodName)) ∈ W0 := W0_of (lwt_3 (List.mem_of_getElem? (i := 10) (by decide +kernel))) rfl
theorem kw3_12 : (Jvm.Cond.instanceMethod ({ cls := "CodeQuiz", name := "partsAll", desc := "(I)Z" } : Jvm.MethodName)) ∈ W0 := W0_of (lwt_3 (List.mem_of_getElem? (i := 12) (by decide +kernel))) rfl
theorem kw3_13 : (Jvm.Cond.code ({ cls := "CodeQuiz", name := "partsAll", desc := "(I)Z" } : Jvm.MethodName) prog_1_method_46_code (4 : Nat) (Option.some Jvm.ClassFile.FieldType.boolean)) ∈ W0 := W0_of (lwt_3 (List.mem_of_getElem? (i := 13) (by decide +kernel))) rfl
theorem kw3_14 : (Jvm.Cond.constant "CodeQuiz" (300 : Nat) (2097151 : Int32)) ∈ W0 := W0_of (lwt_3 (List.mem_of_getElem? (i := 14) (by decide +kernel))) rfl
theorem kw3_15 : (Jvm.Cond.methodLink "CodeQuizLaw" (106 : Nat) ({ cls := "CodeQuiz", name := "count", desc := "(I)I" } : Jvm.MethodName)) ∈ W0 := W0_of (lwt_3 (List.mem_of_getElem? (i := 15) (by decide +kernel))) rfl
theorem kw3_16 : (Jvm.Cond.instanceMethod ({ cls := "CodeQuiz", name := "count", desc := "(I)I" } : Jvm.MethodName)) ∈ W0 := W0_of (lwt_3 (List.mem_of_getElem? (i := 16) (by decide +kernel))) rfl
theorem kw3_17 : (Jvm.Cond.selects "CodeQuiz" ({ cls := "CodeQuiz", name := "count", desc := "(I)I" } : Jvm.MethodName) ({ cls := "CodeQuiz", name := "count", desc := "(I)I" } : Jvm.MethodName)) ∈ W0 := W0_of (lwt_3 (List.mem_of_getElem? (i := 17) (by decide +kernel))) rfl
theorem kw3_18 : (Jvm.Cond.code ({ cls := "CodeQuiz", name := "count", desc := "(I)I" } : Jvm.MethodName) prog_1_method_24_code (2 : Nat) (Option.some Jvm.ClassFile.FieldType.int)) ∈ W0 := W0_of (lwt_3 (List.mem_of_getElem? (i := 18) (by decide +kernel))) rfl
theorem kw3_19 : (Jvm.Cond.classLink "CodeQuizLaw" (10 : Nat) "CodeQuizModel") ∈ W0 := W0_of (lwt_3 (List.mem_of_getElem? (i := 19) (by decide +kernel))) rfl
theorem kw3_20 : (Jvm.Cond.instantiable "CodeQuizModel" (33 : Nat)) ∈ W0 := W0_of (lwt_3 (List.mem_of_getElem? (i := 20) (by decide +kernel))) rfl
theorem kw3_21 : (Jvm.Cond.methodLink "CodeQuizLaw" (12 : Nat) ({ cls := "CodeQuizModel", name := "<init>", desc := "()V" } : Jvm.MethodName)) ∈ W0 := W0_of (lwt_3 (List.mem_of_getElem? (i := 21) (by decide +kernel))) rfl
theorem kw3_22 : (Jvm.Cond.instanceMethod ({ cls := "CodeQuizModel", name := "<init>", desc := "()V" } : Jvm.MethodName)) ∈ W0 := W0_of (lwt_3 (List.mem_of_getElem? (i := 22) (by decide +kernel))) rfl
theorem kw3_23 : (Jvm.Cond.code ({ cls := "CodeQuizModel", name := "<init>", desc := "()V" } : Jvm.MethodName) prog_7_method_1_code (2 : Nat) (Option.none : Option Jvm.ClassFile.FieldType)) ∈ W0 := W0_of (lwt_3 (List.mem_of_getElem? (i := 23) (by decide +kernel))) rfl
theorem kw3_24 : (Jvm.Cond.methodLink "CodeQuizModel" (1 : Nat) ({ cls := "java/lang/Object", name := "<init>", desc := "()V" } : Jvm.MethodName)) ∈ W0 := W0_of (lwt_3 (List.mem_of_getElem? (i := 24) (by decide +kernel))) rfl
theorem kw3_25 : (Jvm.Cond.fieldLink "CodeQuizModel" (9 : Nat) "CodeQuizModel" "op" "[I") ∈ W0 := W0_of (lwt_3 (List.mem_of_getElem? (i := 25) (by decide +kernel))) rfl
theorem kw3_26 : (Jvm.Cond.fieldLink "CodeQuizModel" (13 : Nat) "CodeQuizModel" "x" "[I") ∈ W0 := W0_of (lwt_3 (List.mem_of_getElem? (i := 26) (by decide +kernel))) rfl
theorem kw3_27 : (Jvm.Cond.fieldLink "CodeQuizModel" (16 : Nat) "CodeQuizModel" "y" "[I") ∈ W0 := W0_of (lwt_3 (List.mem_of_getElem? (i := 27) (by decide +kernel))) rfl
theorem kw3_28 : (Jvm.Cond.fieldLink "CodeQuizModel" (19 : Nat) "CodeQuizModel" "many" "[I") ∈ W0 := W0_of (lwt_3 (List.mem_of_getElem? (i := 28) (by decide +kernel))) rfl
theorem kw3_29 : (Jvm.Cond.fieldLink "CodeQuizModel" (91 : Nat) "CodeQuizModel" "programs" "I") ∈ W0 := W0_of (lwt_3 (List.mem_of_getElem? (i := 29) (by decide +kernel))) rfl
theorem kw3_30 : (Jvm.Cond.fieldLink "CodeQuizModel" (22 : Nat) "CodeQuizModel" "variable" "[I") ∈ W0 := W0_of (lwt_3 (List.mem_of_getElem? (i := 30) (by decide +kernel))) rfl
theorem kw3_31 : (Jvm.Cond.fieldLink "CodeQuizModel" (25 : Nat) "CodeQuizModel" "cells" "[I") ∈ W0 := W0_of (lwt_3 (List.mem_of_getElem? (i := 31) (by decide +kernel))) rfl
theorem kw3_32 : (Jvm.Cond.fieldLink "CodeQuizModel" (28 : Nat) "CodeQuizModel" "rowOf" "[I") ∈ W0 := W0_of (lwt_3 (List.mem_of_getElem? (i := 32) (by decide +kernel))) rfl
theorem kw3_33 : (Jvm.Cond.fieldLink "CodeQuizModel" (31 : Nat) "CodeQuizModel" "left" "[J") ∈ W0 := W0_of (lwt_3 (List.mem_of_getElem? (i := 33) (by decide +kernel))) rfl
theorem kw3_34 : (Jvm.Cond.fieldLink "CodeQuizModel" (35 : Nat) "CodeQuizModel" "times" "[I") ∈ W0 := W0_of (lwt_3 (List.mem_of_getElem? (i := 34) (by decide +kernel))) rfl
theorem kw3_35 : (Jvm.Cond.fieldLink "CodeQuizModel" (116 : Nat) "CodeQuizModel" "steps" "I") ∈ W0 := W0_of (lwt_3 (List.mem_of_getElem? (i := 35) (by decide +kernel))) rfl
theorem kw3_36 : (Jvm.Cond.fieldLink "CodeQuizModel" (119 : Nat) "CodeQuizModel" "isSpent" "Z") ∈ W0 := W0_of (lwt_3 (List.mem_of_getElem? (i := 36) (by decide +kernel))) rfl
theorem kw3_37 : (Jvm.Cond.fieldLink "CodeQuizModel" (38 : Nat) "CodeQuizModel" "told" "[I") ∈ W0 := W0_of (lwt_3 (List.mem_of_getElem? (i := 37) (by decide +kernel))) rfl
theorem kw3_38 : (Jvm.Cond.fieldLink "CodeQuizModel" (41 : Nat) "CodeQuizModel" "toldTimes" "[I") ∈ W0 := W0_of (lwt_3 (List.mem_of_getElem? (i := 38) (by decide +kernel))) rfl
theorem kw3_39 : (Jvm.Cond.fieldLink "CodeQuizModel" (44 : Nat) "CodeQuizModel" "toldLines" "I") ∈ W0 := W0_of (lwt_3 (List.mem_of_getElem? (i := 39) (by decide +kernel))) rfl
theorem kw3_40 : (Jvm.Cond.fieldLink "CodeQuizModel" (48 : Nat) "CodeQuizModel" "ofProgram" "[I") ∈ W0 := W0_of (lwt_3 (List.mem_of_getElem? (i := 40) (by decide +kernel))) rfl
theorem kw3_41 : (Jvm.Cond.fieldLink "CodeQuizModel" (51 : Nat) "CodeQuizModel" "input" "[I") ∈ W0 := W0_of (lwt_3 (List.mem_of_getElem? (i := 41) (by decide +kernel))) rfl
theorem kw3_42 : (Jvm.Cond.fieldLink "CodeQuizModel" (54 : Nat) "CodeQuizModel" "kind" "[I") ∈ W0 := W0_of (lwt_3 (List.mem_of_getElem? (i := 42) (by decide +kernel))) rfl
theorem kw3_43 : (Jvm.Cond.fieldLink "CodeQuizModel" (57 : Nat) "CodeQuizModel" "about" "[I") ∈ W0 := W0_of (lwt_3 (List.mem_of_getElem? (i := 43) (by decide +kernel))) rfl
theorem kw3_44 : (Jvm.Cond.fieldLink "CodeQuizModel" (94 : Nat) "CodeQuizModel" "questions" "I") ∈ W0 := W0_of (lwt_3 (List.mem_of_getElem? (i := 44) (by decide +kernel))) rfl
theorem kw3_45 : (Jvm.Cond.fieldLink "CodeQuizModel" (60 : Nat) "CodeQuizModel" "choiceValue" "[I") ∈ W0 := W0_of (lwt_3 (List.mem_of_getElem? (i := 45) (by decide +kernel))) rfl
theorem kw3_46 : (Jvm.Cond.fieldLink "CodeQuizModel" (63 : Nat) "CodeQuizModel" "choiceSlip" "[I") ∈ W0 := W0_of (lwt_3 (List.mem_of_getElem? (i := 46) (by decide +kernel))) rfl
theorem kw3_47 : (Jvm.Cond.fieldLink "CodeQuizModel" (158 : Nat) "CodeQuizModel" "choiceMany" "I") ∈ W0 := W0_of (lwt_3 (List.mem_of_getElem? (i := 47) (by decide +kernel))) rfl
theorem kw3_48 : (Jvm.Cond.fieldLink "CodeQuizModel" (66 : Nat) "CodeQuizModel" "filling" "[I") ∈ W0 := W0_of (lwt_3 (List.mem_of_getElem? (i := 48) (by decide +kernel))) rfl
theorem kw3_49 : (Jvm.Cond.fieldLink "CodeQuizModel" (161 : Nat) "CodeQuizModel" "fillingMany" "I") ∈ W0 := W0_of (lwt_3 (List.mem_of_getElem? (i := 49) (by decide +kernel))) rfl
theorem kw3_50 : (Jvm.Cond.fieldLink "CodeQuizModel" (69 : Nat) "CodeQuizModel" "kept" "[I") ∈ W0 := W0_of (lwt_3 (List.mem_of_getElem? (i := 50) (by decide +kernel))) rfl
theorem kw3_51 : (Jvm.Cond.fieldLink "CodeQuizModel" (72 : Nat) "CodeQuizModel" "hasGiven" "[Z") ∈ W0 := W0_of (lwt_3 (List.mem_of_getElem? (i := 51) (by decide +kernel))) rfl
theorem kw3_52 : (Jvm.Cond.fieldLink "CodeQuizModel" (76 : Nat) "CodeQuizModel" "given" "[I") ∈ W0 := W0_of (lwt_3 (List.mem_of_getElem? (i := 52) (by decide +kernel))) rfl
theorem kw3_53 : (Jvm.Cond.fieldLink "CodeQuizModel" (79 : Nat) "CodeQuizModel" "price" "[I") ∈ W0 := W0_of (lwt_3 (List.mem_of_getElem? (i := 53) (by decide +kernel))) rfl
theorem kw3_54 : (Jvm.Cond.fieldLink "CodeQuizModel" (82 : Nat) "CodeQuizModel" "sets" "[I") ∈ W0 := W0_of (lwt_3 (List.mem_of_getElem? (i := 54) (by decide +kernel))) rfl
theorem kw3_55 : (Jvm.Cond.fieldLink "CodeQuizModel" (173 : Nat) "CodeQuizModel" "setMany" "I") ∈ W0 := W0_of (lwt_3 (List.mem_of_getElem? (i := 55) (by decide +kernel))) rfl
theorem kw3_56 : (Jvm.Cond.fieldLink "CodeQuizModel" (85 : Nat) "CodeQuizModel" "answers" "[I") ∈ W0 := W0_of (lwt_3 (List.mem_of_getElem? (i := 56) (by decide +kernel))) rfl
theorem kw3_57 : (Jvm.Cond.fieldLink "CodeQuizModel" (88 : Nat) "CodeQuizModel" "table" "[I") ∈ W0 := W0_of (lwt_3 (List.mem_of_getElem? (i := 57) (by decide +kernel))) rfl
theorem kw3_125 : (Jvm.Cond.arrayClass Jvm.ClassFile.FieldType.boolean) ∈ W0 := W0_of (lwt_3 (List.mem_of_getElem? (i := 125) (by decide +kernel))) rfl
theorem kw3_126 : (Jvm.Cond.methodLink "CodeQuizLaw" (17 : Nat) ({ cls := "CodeQuizModel", name := "program", desc := "()I" } : Jvm.MethodName)) ∈ W0 := W0_of (lwt_3 (List.mem_of_getElem? (i := 126) (by decide +kernel))) rfl
theorem kw3_127 : (Jvm.Cond.instanceMethod ({ cls := "CodeQuizModel", name := "program", desc := "()I" } : Jvm.MethodName)) ∈ W0 := W0_of (lwt_3 (List.mem_of_getElem? (i := 127) (by decide +kernel))) rfl
theorem kw3_128 : (Jvm.Cond.selects "CodeQuizModel" ({ cls := "CodeQuizModel", name := "program", desc := "()I" } : Jvm.MethodName) ({ cls := "CodeQuizModel", name := "program", desc := "()I" } : Jvm.MethodName)) ∈ W0 := W0_of (lwt_3 (List.mem_of_getElem? (i := 128) (by decide +kernel))) rfl
theorem kw3_129 : (Jvm.Cond.code ({ cls := "CodeQuizModel", name := "program", desc := "()I" } : Jvm.MethodName) prog_7_method_5_code (1 : Nat) (Option.some Jvm.ClassFile.FieldType.int)) ∈ W0 := W0_of (lwt_3 (List.mem_of_getElem? (i := 129) (by decide +kernel))) rfl
theorem kw3_130 : (Jvm.Cond.methodLink "CodeQuizLaw" (22 : Nat) ({ cls := "CodeQuizModel", name := "line", desc := "(IIII)I" } : Jvm.MethodName)) ∈ W0 := W0_of (lwt_3 (List.mem_of_getElem? (i := 130) (by decide +kernel))) rfl
theorem kw3_131 : (Jvm.Cond.instanceMethod ({ cls := "CodeQuizModel", name := "line", desc := "(IIII)I" } : Jvm.MethodName)) ∈ W0 := W0_of (lwt_3 (List.mem_of_getElem? (i := 131) (by decide +kernel))) rfl
theorem kw3_132 : (Jvm.Cond.selects "CodeQuizModel" ({ cls := "CodeQuizModel", name := "line", desc := "(IIII)I" } : Jvm.MethodName) ({ cls := "CodeQuizModel", name := "line", desc := "(IIII)I" } : Jvm.MethodName)) ∈ W0 := W0_of (lwt_3 (List.mem_of_getElem? (i := 132) (by decide +kernel))) rfl
theorem kw3_133 : (Jvm.Cond.code ({ cls := "CodeQuizModel", name := "line", desc := "(IIII)I" } : Jvm.MethodName) prog_7_method_8_code (6 : Nat) (Option.some Jvm.ClassFile.FieldType.int)) ∈ W0 := W0_of (lwt_3 (List.mem_of_getElem? (i := 133) (by decide +kernel))) rfl
theorem kw3_134 : (Jvm.Cond.methodLink "CodeQuizModel" (101 : Nat) ({ cls := "CodeQuizModel", name := "isProgram", desc := "(I)Z" } : Jvm.MethodName)) ∈ W0 := W0_of (lwt_3 (List.mem_of_getElem? (i := 134) (by decide +kernel))) rfl
theorem kw3_136 : (Jvm.Cond.instanceMethod ({ cls := "CodeQuizModel", name := "isProgram", desc := "(I)Z" } : Jvm.MethodName)) ∈ W0 := W0_of (lwt_3 (List.mem_of_getElem? (i := 136) (by decide +kernel))) rfl
theorem kw3_137 : (Jvm.Cond.code ({ cls := "CodeQuizModel", name := "isProgram", desc := "(I)Z" } : Jvm.MethodName) prog_7_method_3_code (2 : Nat) (Option.some Jvm.ClassFile.FieldType.boolean)) ∈ W0 := W0_of (lwt_3 (List.mem_of_getElem? (i := 137) (by decide +kernel))) rfl
theorem kw3_138 : (Jvm.Cond.methodLink "CodeQuizModel" (105 : Nat) ({ cls := "CodeQuizModel", name := "mayBe", desc := "(III)Z" } : Jvm.MethodName)) ∈ W0 := W0_of (lwt_3 (List.mem_of_getElem? (i := 138) (by decide +kernel))) rfl
theorem kw3_139 : (Jvm.Cond.static ({ cls := "CodeQuizModel", name := "mayBe", desc := "(III)Z" } : Jvm.MethodName)) ∈ W0 := W0_of (lwt_3 (List.mem_of_getElem? (i := 139) (by decide +kernel))) rfl
theorem kw3_140 : (Jvm.Cond.code ({ cls := "CodeQuizModel", name := "mayBe", desc := "(III)Z" } : Jvm.MethodName) prog_7_method_6_code (4 : Nat) (Option.some Jvm.ClassFile.FieldType.boolean)) ∈ W0 := W0_of (lwt_3 (List.mem_of_getElem? (i := 140) (by decide +kernel))) rfl
theorem kw3_141 : (Jvm.Cond.methodLink "CodeQuizModel" (97 : Nat) ({ cls := "CodeQuizModel", name := "within", desc := "(III)Z" } : Jvm.MethodName)) ∈ W0 := W0_of (lwt_3 (List.mem_of_getElem? (i := 141) (by decide +kernel))) rfl
theorem kw3_142 : (Jvm.Cond.static ({ cls := "CodeQuizModel", name := "within", desc := "(III)Z" } : Jvm.MethodName)) ∈ W0 := W0_of (lwt_3 (List.mem_of_getElem? (i := 142) (by decide +kernel))) rfl
theorem kw3_143 : (Jvm.Cond.code ({ cls := "CodeQuizModel", name := "within", desc := "(III)Z" } : Jvm.MethodName) prog_7_method_2_code (3 : Nat) (Option.some Jvm.ClassFile.FieldType.boolean)) ∈ W0 := W0_of (lwt_3 (List.mem_of_getElem? (i := 143) (by decide +kernel))) rfl
theorem kw3_144 : (Jvm.Cond.methodLink "CodeQuizModel" (108 : Nat) ({ cls := "CodeQuizModel", name := "openAhead", desc := "(II)I" } : Jvm.MethodName)) ∈ W0 := W0_of (lwt_3 (List.mem_of_getElem? (i := 144) (by decide +kernel))) rfl
theorem kw3_146 : (Jvm.Cond.instanceMethod ({ cls := "CodeQuizModel", name := "openAhead", desc := "(II)I" } : Jvm.MethodName)) ∈ W0 := W0_of (lwt_3 (List.mem_of_getElem? (i := 146) (by decide +kernel))) rfl
theorem kw3_147 : (Jvm.Cond.code ({ cls := "CodeQuizModel", name := "openAhead", desc := "(II)I" } : Jvm.MethodName) prog_7_method_7_code (6 : Nat) (Option.some Jvm.ClassFile.FieldType.int)) ∈ W0 := W0_of (lwt_3 (List.mem_of_getElem? (i := 147) (by decide +kernel))) rfl
theorem kw3_148 : (Jvm.Cond.methodLink "CodeQuizLaw" (27 : Nat) ({ cls := "CodeQuizModel", name := "about", desc := "(III)I" } : Jvm.MethodName)) ∈ W0 := W0_of (lwt_3 (List.mem_of_getElem? (i := 148) (by decide +kernel))) rfl
theorem kw3_149 : (Jvm.Cond.instanceMethod ({ cls := "CodeQuizModel", name := "about", desc := "(III)I" } : Jvm.MethodName)) ∈ W0 := W0_of (lwt_3 (List.mem_of_getElem? (i := 149) (by decide +kernel))) rfl
theorem kw3_150 : (Jvm.Cond.selects "CodeQuizModel" ({ cls := "CodeQuizModel", name := "about", desc := "(III)I" } : Jvm.MethodName) ({ cls := "CodeQuizModel", name := "about", desc := "(III)I" } : Jvm.MethodName)) ∈ W0 := W0_of (lwt_3 (List.mem_of_getElem? (i := 150) (by decide +kernel))) rfl
theorem kw3_151 : (Jvm.Cond.code ({ cls := "CodeQuizModel", name := "about", desc := "(III)I" } : Jvm.MethodName) prog_7_method_9_code (5 : Nat) (Option.some Jvm.ClassFile.FieldType.int)) ∈ W0 := W0_of (lwt_3 (List.mem_of_getElem? (i := 151) (by decide +kernel))) rfl
theorem kw3_152 : (Jvm.Cond.constant "CodeQuizModel" (112 : Nat) (-2000000000 : Int32)) ∈ W0 := W0_of (lwt_3 (List.mem_of_getElem? (i := 152) (by decide +kernel))) rfl
theorem kw3_153 : (Jvm.Cond.methodLink "CodeQuizLaw" (32 : Nat) ({ cls := "CodeQuizModel", name := "whole", desc := "(I)I" } : Jvm.MethodName)) ∈ W0 := W0_of (lwt_3 (List.mem_of_getElem? (i := 153) (by decide +kernel))) rfl
theorem kw3_154 : (Jvm.Cond.instanceMethod ({ cls := "CodeQuizModel", name := "whole", desc := "(I)I" } : Jvm.MethodName)) ∈ W0 := W0_of (lwt_3 (List.mem_of_getElem? (i := 154) (by decide +kernel))) rfl
theorem kw3_155 : (Jvm.Cond.selects "CodeQuizModel" ({ cls := "CodeQuizModel", name := "whole", desc := "(I)I" } : Jvm.MethodName) ({ cls := "CodeQuizModel", name := "whole", desc := "(I)I" } : Jvm.MethodName)) ∈ W0 := W0_of (lwt_3 (List.mem_of_getElem? (i := 155) (by decide +kernel))) rfl
theorem kw3_156 : (Jvm.Cond.code ({ cls := "CodeQuizModel", name := "whole", desc := "(I)I" } : Jvm.MethodName) prog_7_method_11_code (2 : Nat) (Option.some Jvm.ClassFile.FieldType.int)) ∈ W0 := W0_of (lwt_3 (List.mem_of_getElem? (i := 156) (by decide +kernel))) rfl
theorem kw3_157 : (Jvm.Cond.methodLink "CodeQuizModel" (113 : Nat) ({ cls := "CodeQuizModel", name := "isWhole", desc := "(I)Z" } : Jvm.MethodName)) ∈ W0 := W0_of (lwt_3 (List.mem_of_getElem? (i := 157) (by decide +kernel))) rfl
theorem kw3_159 : (Jvm.Cond.instanceMethod ({ cls := "CodeQuizModel", name := "isWhole", desc := "(I)Z" } : Jvm.MethodName)) ∈ W0 := W0_of (lwt_3 (List.mem_of_getElem? (i := 159) (by decide +kernel))) rfl
theorem kw3_160 : (Jvm.Cond.code ({ cls := "CodeQuizModel", name := "isWhole", desc := "(I)Z" } : Jvm.MethodName) prog_7_method_10_code (2 : Nat) (Option.some Jvm.ClassFile.FieldType.boolean)) ∈ W0 := W0_of (lwt_3 (List.mem_of_getElem? (i := 160) (by decide +kernel))) rfl
theorem kw3_161 : (Jvm.Cond.methodLink "CodeQuizLaw" (36 : Nat) ({ cls := "CodeQuizModel", name := "run", desc := "(III)I" } : Jvm.MethodName)) ∈ W0 := W0_of (lwt_3 (List.mem_of_getElem? (i := 161) (by decide +kernel))) rfl
theorem kw3_162 : (Jvm.Cond.instanceMethod ({ cls := "CodeQuizModel", name := "run", desc := "(III)I" } : Jvm.MethodName)) ∈ W0 := W0_of (lwt_3 (List.mem_of_getElem? (i := 162) (by decide +kernel))) rfl
theorem kw3_163 : (Jvm.Cond.selects "CodeQuizModel" ({ cls := "CodeQuizModel", name := "run", desc := "(III)I" } : Jvm.MethodName) ({ cls := "CodeQuizModel", name := "run", desc := "(III)I" } : Jvm.MethodName)) ∈ W0 := W0_of (lwt_3 (List.mem_of_getElem? (i := 163) (by decide +kernel))) rfl
theorem kw3_164 : (Jvm.Cond.code ({ cls := "CodeQuizModel", name := "run", desc := "(III)I" } : Jvm.MethodName) prog_7_method_20_code (5 : Nat) (Option.some Jvm.ClassFile.FieldType.int)) ∈ W0 := W0_of (lwt_3 (List.mem_of_getElem? (i := 164) (by decide +kernel))) rfl
theorem kw3_165 : (Jvm.Cond.methodLink "CodeQuizModel" (144 : Nat) ({ cls := "CodeQuizModel", name := "runLines", desc := "(IIIII)V" } : Jvm.MethodName)) ∈ W0 := W0_of (lwt_3 (List.mem_of_getElem? (i := 165) (by decide +kernel))) rfl
theorem kw3_167 : (Jvm.Cond.instanceMethod ({ cls := "CodeQuizModel", name := "runLines", desc := "(IIIII)V" } : Jvm.MethodName)) ∈ W0 := W0_of (lwt_3 (List.mem_of_getElem? (i := 167) (by decide +kernel))) rfl
theorem kw3_168 : (Jvm.Cond.code ({ cls := "CodeQuizModel", name := "runLines", desc := "(IIIII)V" } : Jvm.MethodName) prog_7_method_15_code (7 : Nat) (Option.none : Option Jvm.ClassFile.FieldType)) ∈ W0 := W0_of (lwt_3 (List.mem_of_getElem? (i := 168) (by decide +kernel))) rfl
theorem kw3_169 : (Jvm.Cond.methodLink "CodeQuizModel" (123 : Nat) ({ cls := "CodeQuizModel", name := "doLine", desc := "(IIII)I" } : Jvm.MethodName)) ∈ W0 := W0_of (lwt_3 (List.mem_of_getElem? (i := 169) (by decide +kernel))) rfl
theorem kw3_171 : (Jvm.Cond.instanceMethod ({ cls := "CodeQuizModel", name := "doLine", desc := "(IIII)I" } : Jvm.MethodName)) ∈ W0 := W0_of (lwt_3 (List.mem_of_getElem? (i := 171) (by decide +kernel))) rfl
theorem kw3_172 : (Jvm.Cond.code ({ cls := "CodeQuizModel", name := "doLine", desc := "(IIII)I" } : Jvm.MethodName) prog_7_method_16_code (8 : Nat) (Option.some Jvm.ClassFile.FieldType.int)) ∈ W0 := W0_of (lwt_3 (List.mem_of_getElem? (i := 172) (by decide +kernel))) rfl
theorem kw3_173 : (Jvm.Cond.methodLink "CodeQuizModel" (127 : Nat) ({ cls := "CodeQuizModel", name := "has", desc := "(II)Z" } : Jvm.MethodName)) ∈ W0 := W0_of (lwt_3 (List.mem_of_getElem? (i := 173) (by decide +kernel))) rfl
theorem kw3_174 : (Jvm.Cond.static ({ cls := "CodeQuizModel", name := "has", desc := "(II)Z" } : Jvm.MethodName)) ∈ W0 := W0_of (lwt_3 (List.mem_of_getElem? (i := 174) (by decide +kernel))) rfl
theorem kw3_175 : (Jvm.Cond.code ({ cls := "CodeQuizModel", name := "has", desc := "(II)Z" } : Jvm.MethodName) prog_7_method_14_code (2 : Nat) (Option.some Jvm.ClassFile.FieldType.boolean)) ∈ W0 := W0_of (lwt_3 (List.mem_of_getElem? (i := 175) (by decide +kernel))) rfl
theorem kw3_176 : (Jvm.Cond.methodLink "CodeQuizModel" (131 : Nat) ({ cls := "CodeQuizModel", name := "endOf", desc := "(II)I" } : Jvm.MethodName)) ∈ W0 := W0_of (lwt_3 (List.mem_of_getElem? (i := 176) (by decide +kernel))) rfl
theorem kw3_178 : (Jvm.Cond.instanceMethod ({ cls := "CodeQuizModel", name := "endOf", desc := "(II)I" } : Jvm.MethodName)) ∈ W0 := W0_of (lwt_3 (List.mem_of_getElem? (i := 178) (by decide +kernel))) rfl
theorem kw3_179 : (Jvm.Cond.code ({ cls := "CodeQuizModel", name := "endOf", desc := "(II)I" } : Jvm.MethodName) prog_7_method_12_code (6 : Nat) (Option.some Jvm.ClassFile.FieldType.int)) ∈ W0 := W0_of (lwt_3 (List.mem_of_getElem? (i := 179) (by decide +kernel))) rfl
theorem kw3_180 : (Jvm.Cond.methodLink "CodeQuizModel" (134 : Nat) ({ cls := "CodeQuizModel", name := "ended", desc := "(II)I" } : Jvm.MethodName)) ∈ W0 := W0_of (lwt_3 (List.mem_of_getElem? (i := 180) (by decide +kernel))) rfl
theorem kw3_182 : (Jvm.Cond.instanceMethod ({ cls := "CodeQuizModel", name := "ended", desc := "(II)I" } : Jvm.MethodName)) ∈ W0 := W0_of (lwt_3 (List.mem_of_getElem? (i := 182) (by decide +kernel))) rfl
theorem kw3_183 : (Jvm.Cond.code ({ cls := "CodeQuizModel", name := "ended", desc := "(II)I" } : Jvm.MethodName) prog_7_method_17_code (4 : Nat) (Option.some Jvm.ClassFile.FieldType.int)) ∈ W0 := W0_of (lwt_3 (List.mem_of_getElem? (i := 183) (by decide +kernel))) rfl
theorem kw3_184 : (Jvm.Cond.methodLink "CodeQuizModel" (141 : Nat) ({ cls := "CodeQuizModel", name := "beginOf", desc := "(II)I" } : Jvm.MethodName)) ∈ W0 := W0_of (lwt_3 (List.mem_of_getElem? (i := 184) (by decide +kernel))) rfl
theorem kw3_186 : (Jvm.Cond.instanceMethod ({ cls := "CodeQuizModel", name := "beginOf", desc := "(II)I" } : Jvm.MethodName)) ∈ W0 := W0_of (lwt_3 (List.mem_of_getElem? (i := 186) (by decide +kernel))) rfl
theorem kw3_187 : (Jvm.Cond.code ({ cls := "CodeQuizModel", name := "beginOf", desc := "(II)I" } : Jvm.MethodName) prog_7_method_13_code (6 : Nat) (Option.some Jvm.ClassFile.FieldType.int)) ∈ W0 := W0_of (lwt_3 (List.mem_of_getElem? (i := 187) (by decide +kernel))) rfl
theorem kw3_188 : (Jvm.Cond.methodLink "CodeQuizModel" (137 : Nat) ({ cls := "CodeQuizModel", name := "rows", desc := "(IIII)V" } : Jvm.MethodName)) ∈ W0 := W0_of (lwt_3 (List.mem_of_getElem? (i := 188) (by decide +kernel))) rfl
theorem kw3_190 : (Jvm.Cond.instanceMethod ({ cls := "CodeQuizModel", name := "rows", desc := "(IIII)V" } : Jvm.MethodName)) ∈ W0 := W0_of (lwt_3 (List.mem_of_getElem? (i := 190) (by decide +kernel))) rfl
theorem kw3_191 : (Jvm.Cond.code ({ cls := "CodeQuizModel", name := "rows", desc := "(IIII)V" } : Jvm.MethodName) prog_7_method_18_code (8 : Nat) (Option.none : Option Jvm.ClassFile.FieldType)) ∈ W0 := W0_of (lwt_3 (List.mem_of_getElem? (i := 191) (by decide +kernel))) rfl
theorem kw3_192 : (Jvm.Cond.methodLink "CodeQuizModel" (148 : Nat) ({ cls := "CodeQuizModel", name := "end", desc := "(I)I" } : Jvm.MethodName)) ∈ W0 := W0_of (lwt_3 (List.mem_of_getElem? (i := 192) (by decide +kernel))) rfl
theorem kw3_194 : (Jvm.Cond.instanceMethod ({ cls := "CodeQuizModel", name := "end", desc := "(I)I" } : Jvm.MethodName)) ∈ W0 := W0_of (lwt_3 (List.mem_of_getElem? (i := 194) (by decide +kernel))) rfl
theorem kw3_195 : (Jvm.Cond.code ({ cls := "CodeQuizModel", name := "end", desc := "(I)I" } : Jvm.MethodName) prog_7_method_19_code (2 : Nat) (Option.some Jvm.ClassFile.FieldType.int)) ∈ W0 := W0_of (lwt_3 (List.mem_of_getElem? (i := 195) (by decide +kernel))) rfl
theorem kw3_196 : (Jvm.Cond.methodLink "CodeQuizLaw" (40 : Nat) ({ cls := "CodeQuizModel", name := "told", desc := "(I)I" } : Jvm.MethodName)) ∈ W0 := W0_of (lwt_3 (List.mem_of_getElem? (i := 196) (by decide +kernel))) rfl
theorem kw3_197 : (Jvm.Cond.instanceMethod ({ cls := "CodeQuizModel", name := "told", desc := "(I)I" } : Jvm.MethodName)) ∈ W0 := W0_of (lwt_3 (List.mem_of_getElem? (i := 197) (by decide +kernel))) rfl
theorem kw3_198 : (Jvm.Cond.selects "CodeQuizModel" ({ cls := "CodeQuizModel", name := "told", desc := "(I)I" } : Jvm.MethodName) ({ cls := "CodeQuizModel", name := "told", desc := "(I)I" } : Jvm.MethodName)) ∈ W0 := W0_of (lwt_3 (List.mem_of_getElem? (i := 198) (by decide +kernel))) rfl
theorem kw3_199 : (Jvm.Cond.code ({ cls := "CodeQuizModel", name := "told", desc := "(I)I" } : Jvm.MethodName) prog_7_method_21_code (2 : Nat) (Option.some Jvm.ClassFile.FieldType.int)) ∈ W0 := W0_of (lwt_3 (List.mem_of_getElem? (i := 199) (by decide +kernel))) rfl
theorem kw3_200 : (Jvm.Cond.methodLink "CodeQuizLaw" (44 : Nat) ({ cls := "CodeQuizModel", name := "done", desc := "(I)I" } : Jvm.MethodName)) ∈ W0 := W0_of (lwt_3 (List.mem_of_getElem? (i := 200) (by decide +kernel))) rfl
theorem kw3_201 : (Jvm.Cond.instanceMethod ({ cls := "CodeQuizModel", name := "done", desc := "(I)I" } : Jvm.MethodName)) ∈ W0 := W0_of (lwt_3 (List.mem_of_getElem? (i := 201) (by decide +kernel))) rfl
theorem kw3_202 : (Jvm.Cond.selects "CodeQuizModel" ({ cls := "CodeQuizModel", name := "done", desc := "(I)I" } : Jvm.MethodName) ({ cls := "CodeQuizModel", name := "done", desc := "(I)I" } : Jvm.MethodName)) ∈ W0 := W0_of (lwt_3 (List.mem_of_getElem? (i := 202) (by decide +kernel))) rfl
theorem kw3_203 : (Jvm.Cond.code ({ cls := "CodeQuizModel", name := "done", desc := "(I)I" } : Jvm.MethodName) prog_7_method_22_code (2 : Nat) (Option.some Jvm.ClassFile.FieldType.int)) ∈ W0 := W0_of (lwt_3 (List.mem_of_getElem? (i := 203) (by decide +kernel))) rfl
theorem kw3_204 : (Jvm.Cond.methodLink "CodeQuizLaw" (48 : Nat) ({ cls := "CodeQuizModel", name := "question", desc := "(IIII)I" } : Jvm.MethodName)) ∈ W0 := W0_of (lwt_3 (List.mem_of_getElem? (i := 204) (by decide +kernel))) rfl
theorem kw3_205 : (Jvm.Cond.instanceMethod ({ cls := "CodeQuizModel", name := "question", desc := "(IIII)I" } : Jvm.MethodName)) ∈ W0 := W0_of (lwt_3 (List.mem_of_getElem? (i := 205) (by decide +kernel))) rfl
theorem kw3_206 : (Jvm.Cond.selects "CodeQuizModel" ({ cls := "CodeQuizModel", name := "question", desc := "(IIII)I" } : Jvm.MethodName) ({ cls := "CodeQuizModel", name := "question", desc := "(IIII)I" } : Jvm.MethodName)) ∈ W0 := W0_of (lwt_3 (List.mem_of_getElem? (i := 206) (by decide +kernel))) rfl
theorem kw3_207 : (Jvm.Cond.code ({ cls := "CodeQuizModel", name := "question", desc := "(IIII)I" } : Jvm.MethodName) prog_7_method_23_code (5 : Nat) (Option.some Jvm.ClassFile.FieldType.int)) ∈ W0 := W0_of (lwt_3 (List.mem_of_getElem? (i := 207) (by decide +kernel))) rfl
theorem kw3_208 : (Jvm.Cond.methodLink "CodeQuizLaw" (53 : Nat) ({ cls := "CodeQuizModel", name := "answer", desc := "(II)I" } : Jvm.MethodName)) ∈ W0 := W0_of (lwt_3 (List.mem_of_getElem? (i := 208) (by decide +kernel))) rfl
theorem kw3_209 : (Jvm.Cond.instanceMethod ({ cls := "CodeQuizModel", name := "answer", desc := "(II)I" } : Jvm.MethodName)) ∈ W0 := W0_of (lwt_3 (List.mem_of_getElem? (i := 209) (by decide +kernel))) rfl
theorem kw3_210 : (Jvm.Cond.selects "CodeQuizModel" ({ cls := "CodeQuizModel", name := "answer", desc := "(II)I" } : Jvm.MethodName) ({ cls := "CodeQuizModel", name := "answer", desc := "(II)I" } : Jvm.MethodName)) ∈ W0 := W0_of (lwt_3 (List.mem_of_getElem? (i := 210) (by decide +kernel))) rfl
theorem kw3_211 : (Jvm.Cond.code ({ cls := "CodeQuizModel", name := "answer", desc := "(II)I" } : Jvm.MethodName) prog_7_method_25_code (3 : Nat) (Option.some Jvm.ClassFile.FieldType.int)) ∈ W0 := W0_of (lwt_3 (List.mem_of_getElem? (i := 211) (by decide +kernel))) rfl
theorem kw3_212 : (Jvm.Cond.methodLink "CodeQuizModel" (152 : Nat) ({ cls := "CodeQuizModel", name := "isQuestion", desc := "(I)Z" } : Jvm.MethodName)) ∈ W0 := W0_of (lwt_3 (List.mem_of_getElem? (i := 212) (by decide +kernel))) rfl
theorem kw3_214 : (Jvm.Cond.instanceMethod ({ cls := "CodeQuizModel", name := "isQuestion", desc := "(I)Z" } : Jvm.MethodName)) ∈ W0 := W0_of (lwt_3 (List.mem_of_getElem? (i := 214) (by decide +kernel))) rfl
theorem kw3_215 : (Jvm.Cond.code ({ cls := "CodeQuizModel", name := "isQuestion", desc := "(I)Z" } : Jvm.MethodName) prog_7_method_4_code (2 : Nat) (Option.some Jvm.ClassFile.FieldType.boolean)) ∈ W0 := W0_of (lwt_3 (List.mem_of_getElem? (i := 215) (by decide +kernel))) rfl
theorem kw3_216 : (Jvm.Cond.methodLink "CodeQuizModel" (155 : Nat) ({ cls := "CodeQuizModel", name := "answerOf", desc := "(II)I" } : Jvm.MethodName)) ∈ W0 := W0_of (lwt_3 (List.mem_of_getElem? (i := 216) (by decide +kernel))) rfl
theorem kw3_218 : (Jvm.Cond.instanceMethod ({ cls := "CodeQuizModel", name := "answerOf", desc := "(II)I" } : Jvm.MethodName)) ∈ W0 := W0_of (lwt_3 (List.mem_of_getElem? (i := 218) (by decide +kernel))) rfl
theorem kw3_219 : (Jvm.Cond.code ({ cls := "CodeQuizModel", name := "answerOf", desc := "(II)I" } : Jvm.MethodName) prog_7_method_24_code (3 : Nat) (Option.some Jvm.ClassFile.FieldType.int)) ∈ W0 := W0_of (lwt_3 (List.mem_of_getElem? (i := 219) (by decide +kernel))) rfl
theorem kw3_220 : (Jvm.Cond.methodLink "CodeQuizLaw" (57 : Nat) ({ cls := "CodeQuizModel", name := "choices", desc := "(II)I" } : Jvm.MethodName)) ∈ W0 := W0_of (lwt_3 (List.mem_of_getElem? (i := 220) (by decide +kernel))) rfl
theorem kw3_221 : (Jvm.Cond.instanceMethod ({ cls := "CodeQuizModel", name := "choices", desc := "(II)I" } : Jvm.MethodName)) ∈ W0 := W0_of (lwt_3 (List.mem_of_getElem? (i := 221) (by decide +kernel))) rfl
theorem kw3_222 : (Jvm.Cond.selects "CodeQuizModel" ({ cls := "CodeQuizModel", name := "choices", desc := "(II)I" } : Jvm.MethodName) ({ cls := "CodeQuizModel", name := "choices", desc := "(II)I" } : Jvm.MethodName)) ∈ W0 := W0_of (lwt_3 (List.mem_of_getElem? (i := 222) (by decide +kernel))) rfl
theorem kw3_223 : (Jvm.Cond.code ({ cls := "CodeQuizModel", name := "choices", desc := "(II)I" } : Jvm.MethodName) prog_7_method_26_code (8 : Nat) (Option.some Jvm.ClassFile.FieldType.int)) ∈ W0 := W0_of (lwt_3 (List.mem_of_getElem? (i := 223) (by decide +kernel))) rfl
theorem kw3_224 : (Jvm.Cond.methodLink "CodeQuizLaw" (61 : Nat) ({ cls := "CodeQuizModel", name := "choice", desc := "(II)I" } : Jvm.MethodName)) ∈ W0 := W0_of (lwt_3 (List.mem_of_getElem? (i := 224) (by decide +kernel))) rfl
theorem kw3_225 : (Jvm.Cond.instanceMethod ({ cls := "CodeQuizModel", name := "choice", desc := "(II)I" } : Jvm.MethodName)) ∈ W0 := W0_of (lwt_3 (List.mem_of_getElem? (i := 225) (by decide +kernel))) rfl
theorem kw3_226 : (Jvm.Cond.selects "CodeQuizModel" ({ cls := "CodeQuizModel", name := "choice", desc := "(II)I" } : Jvm.MethodName) ({ cls := "CodeQuizModel", name := "choice", desc := "(II)I" } : Jvm.MethodName)) ∈ W0 := W0_of (lwt_3 (List.mem_of_getElem? (i := 226) (by decide +kernel))) rfl
theorem kw3_227 : (Jvm.Cond.code ({ cls := "CodeQuizModel", name := "choice", desc := "(II)I" } : Jvm.MethodName) prog_7_method_27_code (3 : Nat) (Option.some Jvm.ClassFile.FieldType.int)) ∈ W0 := W0_of (lwt_3 (List.mem_of_getElem? (i := 227) (by decide +kernel))) rfl
theorem kw3_228 : (Jvm.Cond.methodLink "CodeQuizLaw" (65 : Nat) ({ cls := "CodeQuizModel", name := "gap", desc := "(II)I" } : Jvm.MethodName)) ∈ W0 := W0_of (lwt_3 (List.mem_of_getElem? (i := 228) (by decide +kernel))) rfl
theorem kw3_229 : (Jvm.Cond.instanceMethod ({ cls := "CodeQuizModel", name := "gap", desc := "(II)I" } : Jvm.MethodName)) ∈ W0 := W0_of (lwt_3 (List.mem_of_getElem? (i := 229) (by decide +kernel))) rfl
theorem kw3_230 : (Jvm.Cond.selects "CodeQuizModel" ({ cls := "CodeQuizModel", name := "gap", desc := "(II)I" } : Jvm.MethodName) ({ cls := "CodeQuizModel", name := "gap", desc := "(II)I" } : Jvm.MethodName)) ∈ W0 := W0_of (lwt_3 (List.mem_of_getElem? (i := 230) (by decide +kernel))) rfl
theorem kw3_231 : (Jvm.Cond.code ({ cls := "CodeQuizModel", name := "gap", desc := "(II)I" } : Jvm.MethodName) prog_7_method_28_code (8 : Nat) (Option.some Jvm.ClassFile.FieldType.int)) ∈ W0 := W0_of (lwt_3 (List.mem_of_getElem? (i := 231) (by decide +kernel))) rfl
theorem kw3_232 : (Jvm.Cond.methodLink "CodeQuizLaw" (69 : Nat) ({ cls := "CodeQuizModel", name := "filling", desc := "(I)I" } : Jvm.MethodName)) ∈ W0 := W0_of (lwt_3 (List.mem_of_getElem? (i := 232) (by decide +kernel))) rfl
theorem kw3_233 : (Jvm.Cond.instanceMethod ({ cls := "CodeQuizModel", name := "filling", desc := "(I)I" } : Jvm.MethodName)) ∈ W0 := W0_of (lwt_3 (List.mem_of_getElem? (i := 233) (by decide +kernel))) rfl
theorem kw3_234 : (Jvm.Cond.selects "CodeQuizModel" ({ cls := "CodeQuizModel", name := "filling", desc := "(I)I" } : Jvm.MethodName) ({ cls := "CodeQuizModel", name := "filling", desc := "(I)I" } : Jvm.MethodName)) ∈ W0 := W0_of (lwt_3 (List.mem_of_getElem? (i := 234) (by decide +kernel))) rfl
theorem kw3_235 : (Jvm.Cond.code ({ cls := "CodeQuizModel", name := "filling", desc := "(I)I" } : Jvm.MethodName) prog_7_method_29_code (2 : Nat) (Option.some Jvm.ClassFile.FieldType.int)) ∈ W0 := W0_of (lwt_3 (List.mem_of_getElem? (i := 235) (by decide +kernel))) rfl
theorem kw3_236 : (Jvm.Cond.methodLink "CodeQuizLaw" (73 : Nat) ({ cls := "CodeQuizModel", name := "why", desc := "(II)I" } : Jvm.MethodName)) ∈ W0 := W0_of (lwt_3 (List.mem_of_getElem? (i := 236) (by decide +kernel))) rfl
theorem kw3_237 : (Jvm.Cond.instanceMethod ({ cls := "CodeQuizModel", name := "why", desc := "(II)I" } : Jvm.MethodName)) ∈ W0 := W0_of (lwt_3 (List.mem_of_getElem? (i := 237) (by decide +kernel))) rfl
theorem kw3_238 : (Jvm.Cond.selects "CodeQuizModel" ({ cls := "CodeQuizModel", name := "why", desc := "(II)I" } : Jvm.MethodName) ({ cls := "CodeQuizModel", name := "why", desc := "(II)I" } : Jvm.MethodName)) ∈ W0 := W0_of (lwt_3 (List.mem_of_getElem? (i := 238) (by decide +kernel))) rfl
theorem kw3_239 : (Jvm.Cond.code ({ cls := "CodeQuizModel", name := "why", desc := "(II)I" } : Jvm.MethodName) prog_7_method_30_code (5 : Nat) (Option.some Jvm.ClassFile.FieldType.int)) ∈ W0 := W0_of (lwt_3 (List.mem_of_getElem? (i := 239) (by decide +kernel))) rfl
theorem kw4_0 : (Jvm.Cond.methodLink "CodeQuizLaw" (77 : Nat) ({ cls := "CodeQuizModel", name := "same", desc := "(II)I" } : Jvm.MethodName)) ∈ W0 := W0_of (lwt_4 (List.mem_of_getElem? (i := 0) (by decide +kernel))) rfl
theorem kw4_1 : (Jvm.Cond.instanceMethod ({ cls := "CodeQuizModel", name := "same", desc := "(II)I" } : Jvm.MethodName)) ∈ W0 := W0_of (lwt_4 (List.mem_of_getElem? (i := 1) (by decide +kernel))) rfl
theorem kw4_2 : (Jvm.Cond.selects "CodeQuizModel" ({ cls := "CodeQuizModel", name := "same", desc := "(II)I" } : Jvm.MethodName) ({ cls := "CodeQuizModel", name := "same", desc := "(II)I" } : Jvm.MethodName)) ∈ W0 := W0_of (lwt_4 (List.mem_of_getElem? (i := 2) (by decide +kernel))) rfl
theorem kw4_3 : (Jvm.Cond.code ({ cls := "CodeQuizModel", name := "same", desc := "(II)I" } : Jvm.MethodName) prog_7_method_31_code (6 : Nat) (Option.some Jvm.ClassFile.FieldType.int)) ∈ W0 := W0_of (lwt_4 (List.mem_of_getElem? (i := 3) (by decide +kernel))) rfl
theorem kw4_4 : (Jvm.Cond.methodLink "CodeQuizLaw" (81 : Nat) ({ cls := "CodeQuizModel", name := "give", desc := "(III)I" } : Jvm.MethodName)) ∈ W0 := W0_of (lwt_4 (List.mem_of_getElem? (i := 4) (by decide +kernel))) rfl
theorem kw4_5 : (Jvm.Cond.instanceMethod ({ cls := "CodeQuizModel", name := "give", desc := "(III)I" } : Jvm.MethodName)) ∈ W0 := W0_of (lwt_4 (List.mem_of_getElem? (i := 5) (by decide +kernel))) rfl
theorem kw4_6 : (Jvm.Cond.selects "CodeQuizModel" ({ cls := "CodeQuizModel", name := "give", desc := "(III)I" } : Jvm.MethodName) ({ cls := "CodeQuizModel", name := "give", desc := "(III)I" } : Jvm.MethodName)) ∈ W0 := W0_of (lwt_4 (List.mem_of_getElem? (i := 6) (by decide +kernel))) rfl
theorem kw4_7 : (Jvm.Cond.code ({ cls := "CodeQuizModel", name := "give", desc := "(III)I" } : Jvm.MethodName) prog_7_method_33_code (6 : Nat) (Option.some Jvm.ClassFile.FieldType.int)) ∈ W0 := W0_of (lwt_4 (List.mem_of_getElem? (i := 7) (by decide +kernel))) rfl
theorem kw4_8 : (Jvm.Cond.methodLink "CodeQuizModel" (164 : Nat) ({ cls := "CodeQuizModel", name := "isPupil", desc := "(I)Z" } : Jvm.MethodName)) ∈ W0 := W0_of (lwt_4 (List.mem_of_getElem? (i := 8) (by decide +kernel))) rfl
theorem kw4_9 : (Jvm.Cond.static ({ cls := "CodeQuizModel", name := "isPupil", desc := "(I)Z" } : Jvm.MethodName)) ∈ W0 := W0_of (lwt_4 (List.mem_of_getElem? (i := 9) (by decide +kernel))) rfl
theorem kw4_10 : (Jvm.Cond.code ({ cls := "CodeQuizModel", name := "isPupil", desc := "(I)Z" } : Jvm.MethodName) prog_7_method_32_code (1 : Nat) (Option.some Jvm.ClassFile.FieldType.boolean)) ∈ W0 := W0_of (lwt_4 (List.mem_of_getElem? (i := 10) (by decide +kernel))) rfl
theorem kw4_11 : (Jvm.Cond.methodLink "CodeQuizLaw" (85 : Nat) ({ cls := "CodeQuizModel", name := "price", desc := "(II)I" } : Jvm.MethodName)) ∈ W0 := W0_of (lwt_4 (List.mem_of_getElem? (i := 11) (by decide +kernel))) rfl
theorem kw4_12 : (Jvm.Cond.instanceMethod ({ cls := "CodeQuizModel", name := "price", desc := "(II)I" } : Jvm.MethodName)) ∈ W0 := W0_of (lwt_4 (List.mem_of_getElem? (i := 12) (by decide +kernel))) rfl
theorem kw4_13 : (Jvm.Cond.selects "CodeQuizModel" ({ cls := "CodeQuizModel", name := "price", desc := "(II)I" } : Jvm.MethodName) ({ cls := "CodeQuizModel", name := "price", desc := "(II)I" } : Jvm.MethodName)) ∈ W0 := W0_of (lwt_4 (List.mem_of_getElem? (i := 13) (by decide +kernel))) rfl
theorem kw4_14 : (Jvm.Cond.code ({ cls := "CodeQuizModel", name := "price", desc := "(II)I" } : Jvm.MethodName) prog_7_method_34_code (4 : Nat) (Option.some Jvm.ClassFile.FieldType.int)) ∈ W0 := W0_of (lwt_4 (List.mem_of_getElem? (i := 14) (by decide +kernel))) rfl
theorem kw4_15 : (Jvm.Cond.methodLink "CodeQuizLaw" (89 : Nat) ({ cls := "CodeQuizModel", name := "cost", desc := "(II)I" } : Jvm.MethodName)) ∈ W0 := W0_of (lwt_4 (List.mem_of_getElem? (i := 15) (by decide +kernel))) rfl
theorem kw4_16 : (Jvm.Cond.instanceMethod ({ cls := "CodeQuizModel", name := "cost", desc := "(II)I" } : Jvm.MethodName)) ∈ W0 := W0_of (lwt_4 (List.mem_of_getElem? (i := 16) (by decide +kernel))) rfl
theorem kw4_17 : (Jvm.Cond.selects "CodeQuizModel" ({ cls := "CodeQuizModel", name := "cost", desc := "(II)I" } : Jvm.MethodName) ({ cls := "CodeQuizModel", name := "cost", desc := "(II)I" } : Jvm.MethodName)) ∈ W0 := W0_of (lwt_4 (List.mem_of_getElem? (i := 17) (by decide +kernel))) rfl
theorem kw4_18 : (Jvm.Cond.code ({ cls := "CodeQuizModel", name := "cost", desc := "(II)I" } : Jvm.MethodName) prog_7_method_37_code (3 : Nat) (Option.some Jvm.ClassFile.FieldType.int)) ∈ W0 := W0_of (lwt_4 (List.mem_of_getElem? (i := 18) (by decide +kernel))) rfl
theorem kw4_19 : (Jvm.Cond.methodLink "CodeQuizModel" (167 : Nat) ({ cls := "CodeQuizModel", name := "bits", desc := "(I)I" } : Jvm.MethodName)) ∈ W0 := W0_of (lwt_4 (List.mem_of_getElem? (i := 19) (by decide +kernel))) rfl
theorem kw4_20 : (Jvm.Cond.static ({ cls := "CodeQuizModel", name := "bits", desc := "(I)I" } : Jvm.MethodName)) ∈ W0 := W0_of (lwt_4 (List.mem_of_getElem? (i := 20) (by decide +kernel))) rfl
theorem kw4_21 : (Jvm.Cond.code ({ cls := "CodeQuizModel", name := "bits", desc := "(I)I" } : Jvm.MethodName) prog_7_method_35_code (3 : Nat) (Option.some Jvm.ClassFile.FieldType.int)) ∈ W0 := W0_of (lwt_4 (List.mem_of_getElem? (i := 21) (by decide +kernel))) rfl
theorem kw4_22 : (Jvm.Cond.methodLink "CodeQuizModel" (170 : Nat) ({ cls := "CodeQuizModel", name := "costOf", desc := "(II)I" } : Jvm.MethodName)) ∈ W0 := W0_of (lwt_4 (List.mem_of_getElem? (i := 22) (by decide +kernel))) rfl
theorem kw4_24 : (Jvm.Cond.instanceMethod ({ cls := "CodeQuizModel", name := "costOf", desc := "(II)I" } : Jvm.MethodName)) ∈ W0 := W0_of (lwt_4 (List.mem_of_getElem? (i := 24) (by decide +kernel))) rfl
theorem kw4_25 : (Jvm.Cond.code ({ cls := "CodeQuizModel", name := "costOf", desc := "(II)I" } : Jvm.MethodName) prog_7_method_36_code (6 : Nat) (Option.some Jvm.ClassFile.FieldType.int)) ∈ W0 := W0_of (lwt_4 (List.mem_of_getElem? (i := 25) (by decide +kernel))) rfl
theorem kw4_26 : (Jvm.Cond.methodLink "CodeQuizLaw" (93 : Nat) ({ cls := "CodeQuizModel", name := "sets", desc := "(I)I" } : Jvm.MethodName)) ∈ W0 := W0_of (lwt_4 (List.mem_of_getElem? (i := 26) (by decide +kernel))) rfl
theorem kw4_27 : (Jvm.Cond.instanceMethod ({ cls := "CodeQuizModel", name := "sets", desc := "(I)I" } : Jvm.MethodName)) ∈ W0 := W0_of (lwt_4 (List.mem_of_getElem? (i := 27) (by decide +kernel))) rfl
theorem kw4_28 : (Jvm.Cond.selects "CodeQuizModel" ({ cls := "CodeQuizModel", name := "sets", desc := "(I)I" } : Jvm.MethodName) ({ cls := "CodeQuizModel", name := "sets", desc := "(I)I" } : Jvm.MethodName)) ∈ W0 := W0_of (lwt_4 (List.mem_of_getElem? (i := 28) (by decide +kernel))) rfl
theorem kw4_29 : (Jvm.Cond.code ({ cls := "CodeQuizModel", name := "sets", desc := "(I)I" } : Jvm.MethodName) prog_7_method_39_code (2 : Nat) (Option.some Jvm.ClassFile.FieldType.int)) ∈ W0 := W0_of (lwt_4 (List.mem_of_getElem? (i := 29) (by decide +kernel))) rfl
theorem kw4_30 : (Jvm.Cond.methodLink "CodeQuizModel" (176 : Nat) ({ cls := "CodeQuizModel", name := "findSets", desc := "(I)V" } : Jvm.MethodName)) ∈ W0 := W0_of (lwt_4 (List.mem_of_getElem? (i := 30) (by decide +kernel))) rfl
theorem kw4_32 : (Jvm.Cond.instanceMethod ({ cls := "CodeQuizModel", name := "findSets", desc := "(I)V" } : Jvm.MethodName)) ∈ W0 := W0_of (lwt_4 (List.mem_of_getElem? (i := 32) (by decide +kernel))) rfl
theorem kw4_33 : (Jvm.Cond.code ({ cls := "CodeQuizModel", name := "findSets", desc := "(I)V" } : Jvm.MethodName) prog_7_method_38_code (5 : Nat) (Option.none : Option Jvm.ClassFile.FieldType)) ∈ W0 := W0_of (lwt_4 (List.mem_of_getElem? (i := 33) (by decide +kernel))) rfl
theorem kw4_34 : (Jvm.Cond.methodLink "CodeQuizLaw" (97 : Nat) ({ cls := "CodeQuizModel", name := "set", desc := "(II)I" } : Jvm.MethodName)) ∈ W0 := W0_of (lwt_4 (List.mem_of_getElem? (i := 34) (by decide +kernel))) rfl
theorem kw4_35 : (Jvm.Cond.instanceMethod ({ cls := "CodeQuizModel", name := "set", desc := "(II)I" } : Jvm.MethodName)) ∈ W0 := W0_of (lwt_4 (List.mem_of_getElem? (i := 35) (by decide +kernel))) rfl
theorem kw4_36 : (Jvm.Cond.selects "CodeQuizModel" ({ cls := "CodeQuizModel", name := "set", desc := "(II)I" } : Jvm.MethodName) ({ cls := "CodeQuizModel", name := "set", desc := "(II)I" } : Jvm.MethodName)) ∈ W0 := W0_of (lwt_4 (List.mem_of_getElem? (i := 36) (by decide +kernel))) rfl
theorem kw4_37 : (Jvm.Cond.code ({ cls := "CodeQuizModel", name := "set", desc := "(II)I" } : Jvm.MethodName) prog_7_method_40_code (3 : Nat) (Option.some Jvm.ClassFile.FieldType.int)) ∈ W0 := W0_of (lwt_4 (List.mem_of_getElem? (i := 37) (by decide +kernel))) rfl
theorem kw4_38 : (Jvm.Cond.methodLink "CodeQuizLaw" (101 : Nat) ({ cls := "CodeQuizModel", name := "next", desc := "(I)I" } : Jvm.MethodName)) ∈ W0 := W0_of (lwt_4 (List.mem_of_getElem? (i := 38) (by decide +kernel))) rfl
theorem kw4_39 : (Jvm.Cond.instanceMethod ({ cls := "CodeQuizModel", name := "next", desc := "(I)I" } : Jvm.MethodName)) ∈ W0 := W0_of (lwt_4 (List.mem_of_getElem? (i := 39) (by decide +kernel))) rfl
theorem kw4_40 : (Jvm.Cond.selects "CodeQuizModel" ({ cls := "CodeQuizModel", name := "next", desc := "(I)I" } : Jvm.MethodName) ({ cls := "CodeQuizModel", name := "next", desc := "(I)I" } : Jvm.MethodName)) ∈ W0 := W0_of (lwt_4 (List.mem_of_getElem? (i := 40) (by decide +kernel))) rfl
theorem kw4_41 : (Jvm.Cond.code ({ cls := "CodeQuizModel", name := "next", desc := "(I)I" } : Jvm.MethodName) prog_7_method_42_code (6 : Nat) (Option.some Jvm.ClassFile.FieldType.int)) ∈ W0 := W0_of (lwt_4 (List.mem_of_getElem? (i := 41) (by decide +kernel))) rfl
theorem kw4_42 : (Jvm.Cond.methodLink "CodeQuizModel" (180 : Nat) ({ cls := "CodeQuizModel", name := "greatest", desc := "(I)I" } : Jvm.MethodName)) ∈ W0 := W0_of (lwt_4 (List.mem_of_getElem? (i := 42) (by decide +kernel))) rfl
theorem kw4_44 : (Jvm.Cond.instanceMethod ({ cls := "CodeQuizModel", name := "greatest", desc := "(I)I" } : Jvm.MethodName)) ∈ W0 := W0_of (lwt_4 (List.mem_of_getElem? (i := 44) (by decide +kernel))) rfl
theorem kw4_45 : (Jvm.Cond.code ({ cls := "CodeQuizModel", name := "greatest", desc := "(I)I" } : Jvm.MethodName) prog_7_method_41_code (6 : Nat) (Option.some Jvm.ClassFile.FieldType.int)) ∈ W0 := W0_of (lwt_4 (List.mem_of_getElem? (i := 45) (by decide +kernel))) rfl
theorem kw4_46 : (Jvm.Cond.methodLink "CodeQuizLaw" (105 : Nat) ({ cls := "CodeQuizModel", name := "parting", desc := "()I" } : Jvm.MethodName)) ∈ W0 := W0_of (lwt_4 (List.mem_of_getElem? (i := 46) (by decide +kernel))) rfl
theorem kw4_47 : (Jvm.Cond.instanceMethod ({ cls := "CodeQuizModel", name := "parting", desc := "()I" } : Jvm.MethodName)) ∈ W0 := W0_of (lwt_4 (List.mem_of_getElem? (i := 47) (by decide +kernel))) rfl
theorem kw4_48 : (Jvm.Cond.selects "CodeQuizModel" ({ cls := "CodeQuizModel", name := "parting", desc := "()I" } : Jvm.MethodName) ({ cls := "CodeQuizModel", name := "parting", desc := "()I" } : Jvm.MethodName)) ∈ W0 := W0_of (lwt_4 (List.mem_of_getElem? (i := 48) (by decide +kernel))) rfl
theorem kw4_49 : (Jvm.Cond.code ({ cls := "CodeQuizModel", name := "parting", desc := "()I" } : Jvm.MethodName) prog_7_method_44_code (8 : Nat) (Option.some Jvm.ClassFile.FieldType.int)) ∈ W0 := W0_of (lwt_4 (List.mem_of_getElem? (i := 49) (by decide +kernel))) rfl
theorem kw4_50 : (Jvm.Cond.methodLink "CodeQuizModel" (183 : Nat) ({ cls := "CodeQuizModel", name := "tellApart", desc := "(IIII)Z" } : Jvm.MethodName)) ∈ W0 := W0_of (lwt_4 (List.mem_of_getElem? (i := 50) (by decide +kernel))) rfl
theorem kw4_52 : (Jvm.Cond.instanceMethod ({ cls := "CodeQuizModel", name := "tellApart", desc := "(IIII)Z" } : Jvm.MethodName)) ∈ W0 := W0_of (lwt_4 (List.mem_of_getElem? (i := 52) (by decide +kernel))) rfl
theorem kw4_53 : (Jvm.Cond.code ({ cls := "CodeQuizModel", name := "tellApart", desc := "(IIII)Z" } : Jvm.MethodName) prog_7_method_43_code (7 : Nat) (Option.some Jvm.ClassFile.FieldType.boolean)) ∈ W0 := W0_of (lwt_4 (List.mem_of_getElem? (i := 53) (by decide +kernel))) rfl
theorem kw4_54 : (Jvm.Cond.methodLink "CodeQuizLaw" (109 : Nat) ({ cls := "CodeQuizModel", name := "count", desc := "(I)I" } : Jvm.MethodName)) ∈ W0 := W0_of (lwt_4 (List.mem_of_getElem? (i := 54) (by decide +kernel))) rfl
theorem kw4_55 : (Jvm.Cond.instanceMethod ({ cls := "CodeQuizModel", name := "count", desc := "(I)I" } : Jvm.MethodName)) ∈ W0 := W0_of (lwt_4 (List.mem_of_getElem? (i := 55) (by decide +kernel))) rfl
theorem kw4_56 : (Jvm.Cond.selects "CodeQuizModel" ({ cls := "CodeQuizModel", name := "count", desc := "(I)I" } : Jvm.MethodName) ({ cls := "CodeQuizModel", name := "count", desc := "(I)I" } : Jvm.MethodName)) ∈ W0 := W0_of (lwt_4 (List.mem_of_getElem? (i := 56) (by decide +kernel))) rfl
theorem kw4_57 : (Jvm.Cond.code ({ cls := "CodeQuizModel", name := "count", desc := "(I)I" } : Jvm.MethodName) prog_7_method_45_code (4 : Nat) (Option.some Jvm.ClassFile.FieldType.int)) ∈ W0 := W0_of (lwt_4 (List.mem_of_getElem? (i := 57) (by decide +kernel))) rfl
theorem inX0 : ∀ w ∈ wsX00, w ∈ W0 := by
  intro w hw
  have hp : wsX00 = ([95, 97, 99, 101, 103, 105, 107, 109, 111] : List Nat).filterMap (fun i => lw_tbl[i]?) := by decide +kernel
  have hg : wsX00.all goodWord = true := by decide +kernel
  have h1 := List.all_eq_true.mp hg w hw
  rw [hp] at hw
  obtain ⟨i, -, hi⟩ := List.mem_filterMap.mp hw
  exact W0_of (List.mem_of_getElem? hi) h1
theorem inX1 : ∀ w ∈ wsX10, w ∈ W0 := by
  intro w hw
  have hp : wsX10 = ([215, 217, 219, 221, 223, 225, 227, 229, 231] : List Nat).filterMap (fun i => lw_tbl[i]?) := by decide +kernel
  have hg : wsX10.all goodWord = true := by decide +kernel
  have h1 := List.all_eq_true.mp hg w hw
  rw [hp] at hw
  obtain ⟨i, -, hi⟩ := List.mem_filterMap.mp hw
  exact W0_of (List.mem_of_getElem? hi) h1
theorem inX2 : ∀ w ∈ wsX20, w ∈ W0 := by
  intro w hw
  have hp : wsX20 = ([124, 126] : List Nat).filterMap (fun i => lw_tbl[i]?) := by decide +kernel
  have hg : wsX20.all goodWord = true := by decide +kernel
  have h1 := List.all_eq_true.mp hg w hw
  rw [hp] at hw
  obtain ⟨i, -, hi⟩ := List.mem_filterMap.mp hw
  exact W0_of (List.mem_of_getElem? hi) h1
theorem inX3 : ∀ w ∈ wsX30, w ∈ W0 := by
  intro w hw
  have hp : wsX30 = ([361, 363, 365, 367, 369, 371] : List Nat).filterMap (fun i => lw_tbl[i]?) := by decide +kernel
  have hg : wsX30.all goodWord = true := by decide +kernel
  have h1 := List.all_eq_true.mp hg w hw
  rw [hp] at hw
  obtain ⟨i, -, hi⟩ := List.mem_filterMap.mp hw
  exact W0_of (List.mem_of_getElem? hi) h1
theorem inX4 : ∀ w ∈ wsX40, w ∈ W0 := by
  intro w hw
  have hp : wsX40 = ([150, 152, 154, 156, 158, 160, 162, 164, 166, 168, 170, 172, 174, 176, 178, 180, 182, 184] : List Nat).filterMap (fun i => lw_tbl[i]?) := by decide +kernel
  have hg : wsX40.all goodWord = true := by decide +kernel
  have h1 := List.all_eq_true.mp hg w hw
  rw [hp] at hw
  obtain ⟨i, -, hi⟩ := List.mem_filterMap.mp hw
  exact W0_of (List.mem_of_getElem? hi) h1
theorem inX5 : ∀ w ∈ wsX50, w ∈ W0 := by
  intro w hw
  have hp : wsX50 = ([588, 590, 592, 594, 596, 598, 600, 602, 604, 606, 608, 610, 612, 614, 616, 618, 620, 622, 624, 626, 628, 630, 632, 634, 636, 638, 640, 642, 644, 646, 648, 650, 652] : List Nat).filterMap (fun i => lw_tbl[i]?) := by decide +kernel
  have hg : wsX50.all goodWord = true := by decide +kernel
  have h1 := List.all_eq_true.mp hg w hw
  rw [hp] at hw
  obtain ⟨i, -, hi⟩ := List.mem_filterMap.mp hw
  exact W0_of (List.mem_of_getElem? hi) h1
def nestL : List Cond := [(Jvm.Cond.methodLinkNest "CodeQuiz" (33 : Nat) ({ cls := "CodeQuiz$Machine", name := "<init>", desc := "()V" } : Jvm.MethodName) "CodeQuiz"),
  (Jvm.Cond.fieldLinkNest "CodeQuiz" (127 : Nat) "CodeQuiz$Machine" "variables" "[I" "CodeQuiz"),
  (Jvm.Cond.fieldLinkNest "CodeQuiz" (143 : Nat) "CodeQuiz$Machine" "timesDone" "[I" "CodeQuiz"),
  (Jvm.Cond.fieldLinkNest "CodeQuiz" (140 : Nat) "CodeQuiz$Machine" "linesKnown" "I" "CodeQuiz"),
  (Jvm.Cond.fieldLinkNest "CodeQuiz" (124 : Nat) "CodeQuiz$Machine" "steps" "I" "CodeQuiz"),
  (Jvm.Cond.fieldLinkNest "CodeQuiz" (134 : Nat) "CodeQuiz$Machine" "spent" "Z" "CodeQuiz"),
  (Jvm.Cond.methodLinkNest "CodeQuiz" (56 : Nat) ({ cls := "CodeQuiz$Pupil", name := "<init>", desc := "()V" } : Jvm.MethodName) "CodeQuiz"),
  (Jvm.Cond.fieldLinkNest "CodeQuiz" (293 : Nat) "CodeQuiz$Pupil" "values" "[I" "CodeQuiz"),
  (Jvm.Cond.methodLinkNest "CodeQuiz" (67 : Nat) ({ cls := "CodeQuiz$Program", name := "<init>", desc := "()V" } : Jvm.MethodName) "CodeQuiz"),
  (Jvm.Cond.fieldLinkNest "CodeQuiz" (99 : Nat) "CodeQuiz$Program" "ops" "[I" "CodeQuiz"),
  (Jvm.Cond.fieldLinkNest "CodeQuiz$Machine" (67 : Nat) "CodeQuiz$Program" "ops" "[I" "CodeQuiz"),
  (Jvm.Cond.fieldLinkNest "CodeQuiz" (102 : Nat) "CodeQuiz$Program" "xs" "[I" "CodeQuiz"),
  (Jvm.Cond.fieldLinkNest "CodeQuiz$Machine" (61 : Nat) "CodeQuiz$Program" "xs" "[I" "CodeQuiz"),
  (Jvm.Cond.fieldLinkNest "CodeQuiz" (105 : Nat) "CodeQuiz$Program" "ys" "[I" "CodeQuiz"),
  (Jvm.Cond.fieldLinkNest "CodeQuiz$Machine" (64 : Nat) "CodeQuiz$Program" "ys" "[I" "CodeQuiz"),
  (Jvm.Cond.fieldLinkNest "CodeQuiz" (108 : Nat) "CodeQuiz$Program" "depths" "[I" "CodeQuiz"),
  (Jvm.Cond.fieldLinkNest "CodeQuiz$Machine" (78 : Nat) "CodeQuiz$Program" "mates" "[I" "CodeQuiz"),
  (Jvm.Cond.fieldLinkNest "CodeQuiz$Machine" (36 : Nat) "CodeQuiz$Program" "size" "I" "CodeQuiz"),
  (Jvm.Cond.fieldLinkNest "CodeQuiz" (84 : Nat) "CodeQuiz$Program" "size" "I" "CodeQuiz"),
  (Jvm.Cond.fieldLinkNest "CodeQuiz" (76 : Nat) "CodeQuiz$Program" "asked" "Z" "CodeQuiz"),
  (Jvm.Cond.methodLinkNest "CodeQuiz" (80 : Nat) ({ cls := "CodeQuiz$Program", name := "isWhole", desc := "()Z" } : Jvm.MethodName) "CodeQuiz"),
  (Jvm.Cond.methodLinkNest "CodeQuiz" (90 : Nat) ({ cls := "CodeQuiz$Program", name := "append", desc := "(III)I" } : Jvm.MethodName) "CodeQuiz"),
  (Jvm.Cond.methodLinkNest "CodeQuiz" (94 : Nat) ({ cls := "CodeQuiz$Program", name := "hasLine", desc := "(I)Z" } : Jvm.MethodName) "CodeQuiz"),
  (Jvm.Cond.methodLinkNest "CodeQuiz" (117 : Nat) ({ cls := "CodeQuiz$Machine", name := "perform", desc := "(LCodeQuiz$Program;II)V" } : Jvm.MethodName) "CodeQuiz"),
  (Jvm.Cond.methodLinkNest "CodeQuiz" (130 : Nat) ({ cls := "CodeQuiz$Machine", name := "cellOf", desc := "(I)I" } : Jvm.MethodName) "CodeQuiz"),
  (Jvm.Cond.methodLinkNest "CodeQuiz" (137 : Nat) ({ cls := "CodeQuiz$Machine", name := "namesShare", desc := "()Z" } : Jvm.MethodName) "CodeQuiz"),
  (Jvm.Cond.methodLinkNest "CodeQuiz" (153 : Nat) ({ cls := "CodeQuiz$Question", name := "<init>", desc := "(LCodeQuiz$Program;III)V" } : Jvm.MethodName) "CodeQuiz"),
  (Jvm.Cond.fieldLinkNest "CodeQuiz" (195 : Nat) "CodeQuiz$Question" "program" "LCodeQuiz$Program;" "CodeQuiz"),
  (Jvm.Cond.fieldLinkNest "CodeQuiz" (258 : Nat) "CodeQuiz$Question" "input" "I" "CodeQuiz"),
  (Jvm.Cond.fieldLinkNest "CodeQuiz" (192 : Nat) "CodeQuiz$Question" "kind" "I" "CodeQuiz"),
  (Jvm.Cond.fieldLinkNest "CodeQuiz" (199 : Nat) "CodeQuiz$Question" "what" "I" "CodeQuiz"),
  (Jvm.Cond.fieldLinkNest "CodeQuiz" (268 : Nat) "CodeQuiz$Question" "answers" "[I" "CodeQuiz"),
  (Jvm.Cond.methodLinkNest "CodeQuiz" (255 : Nat) ({ cls := "CodeQuiz$Question", name := "knows", desc := "(I)Z" } : Jvm.MethodName) "CodeQuiz"),
  (Jvm.Cond.methodLinkNest "CodeQuiz$Question" (33 : Nat) ({ cls := "CodeQuiz", name := "hasBit", desc := "(JI)Z" } : Jvm.MethodName) "CodeQuiz"),
  (Jvm.Cond.methodLinkNest "CodeQuiz" (261 : Nat) ({ cls := "CodeQuiz$Machine", name := "answerTo", desc := "(II)I" } : Jvm.MethodName) "CodeQuiz"),
  (Jvm.Cond.methodLinkNest "CodeQuiz" (264 : Nat) ({ cls := "CodeQuiz$Question", name := "keep", desc := "(II)V" } : Jvm.MethodName) "CodeQuiz"),
  (Jvm.Cond.methodLinkNest "CodeQuiz" (288 : Nat) ({ cls := "CodeQuiz$Machine", name := "endsLike", desc := "(LCodeQuiz$Machine;)Z" } : Jvm.MethodName) "CodeQuiz"),
  (Jvm.Cond.methodLinkNest "CodeQuiz" (202 : Nat) ({ cls := "CodeQuiz$Machine", name := "endsWithVariablesOf", desc := "(LCodeQuiz$Machine;)Z" } : Jvm.MethodName) "CodeQuiz"),
  (Jvm.Cond.methodLinkNest "CodeQuiz" (209 : Nat) ({ cls := "CodeQuiz$Pupil", name := "note", desc := "(II)I" } : Jvm.MethodName) "CodeQuiz"),
  (Jvm.Cond.methodLinkNest "CodeQuiz" (225 : Nat) ({ cls := "CodeQuiz$Pupil", name := "hasAnswered", desc := "(I)Z" } : Jvm.MethodName) "CodeQuiz"),
  (Jvm.Cond.methodLinkNest "CodeQuiz$Pupil" (19 : Nat) ({ cls := "CodeQuiz", name := "hasBit", desc := "(JI)Z" } : Jvm.MethodName) "CodeQuiz")]
theorem nestL_in : ∀ w ∈ nestL, w ∈ lw_tbl := by
  intro w hw
  have hp : nestL = ([77, 82, 86, 90, 92, 94, 117, 122, 192, 197, 198, 200, 201, 203, 204, 206, 208, 212, 213, 214, 254, 258, 266, 285, 326, 330, 346, 351, 353, 355, 357, 359, 386, 390, 393, 398, 435, 465, 473, 496, 500] : List Nat).filterMap (fun i => lw_tbl[i]?) := by decide +kernel
  rw [hp] at hw
  obtain ⟨i, -, hi⟩ := List.mem_filterMap.mp hw
  exact List.mem_of_getElem? hi
theorem nw_0 : (Jvm.Cond.methodLinkNest "CodeQuiz" (33 : Nat) ({ cls := "CodeQuiz$Machine", name := "<init>", desc := "()V" } : Jvm.MethodName) "CodeQuiz") ∈ nestL := List.mem_of_getElem? (i := 0) rfl
theorem nw_1 : (Jvm.Cond.fieldLinkNest "CodeQuiz" (127 : Nat) "CodeQuiz$Machine" "variables" "[I" "CodeQuiz") ∈ nestL := List.mem_of_getElem? (i := 1) rfl
theorem nw_2 : (Jvm.Cond.fieldLinkNest "CodeQuiz" (143 : Nat) "CodeQuiz$Machine" "timesDone" "[I" "CodeQuiz") ∈ nestL := List.mem_of_getElem? (i := 2) rfl
theorem nw_3 : (Jvm.Cond.fieldLinkNest "CodeQuiz" (140 : Nat) "CodeQuiz$Machine" "linesKnown" "I" "CodeQuiz") ∈ nestL := List.mem_of_getElem? (i := 3) rfl
theorem nw_4 : (Jvm.Cond.fieldLinkNest "CodeQuiz" (124 : Nat) "CodeQuiz$Machine" "steps" "I" "CodeQuiz") ∈ nestL := List.mem_of_getElem? (i := 4) rfl
theorem nw_5 : (Jvm.Cond.fieldLinkNest "CodeQuiz" (134 : Nat) "CodeQuiz$Machine" "spent" "Z" "CodeQuiz") ∈ nestL := List.mem_of_getElem? (i := 5) rfl
theorem nw_6 : (Jvm.Cond.methodLinkNest "CodeQuiz" (56 : Nat) ({ cls := "CodeQuiz$Pupil", name := "<init>", desc := "()V" } : Jvm.MethodName) "CodeQuiz") ∈ nestL := List.mem_of_getElem? (i := 6) rfl
theorem nw_7 : (Jvm.Cond.fieldLinkNest "CodeQuiz" (293 : Nat) "CodeQuiz$Pupil" "values" "[I" "CodeQuiz") ∈ nestL := List.mem_of_getElem? (i := 7) rfl
theorem nw_8 : (Jvm.Cond.methodLinkNest "CodeQuiz" (67 : Nat) ({ cls := "CodeQuiz$Program", name := "<init>", desc := "()V" } : Jvm.MethodName) "CodeQuiz") ∈ nestL := List.mem_of_getElem? (i := 8) rfl
theorem nw_9 : (Jvm.Cond.fieldLinkNest "CodeQuiz" (99 : Nat) "CodeQuiz$Program" "ops" "[I" "CodeQuiz") ∈ nestL := List.mem_of_getElem? (i := 9) rfl
theorem nw_10 : (Jvm.Cond.fieldLinkNest "CodeQuiz$Machine" (67 : Nat) "CodeQuiz$Program" "ops" "[I" "CodeQuiz") ∈ nestL := List.mem_of_getElem? (i := 10) rfl
theorem nw_11 : (Jvm.Cond.fieldLinkNest "CodeQuiz" (102 : Nat) "CodeQuiz$Program" "xs" "[I" "CodeQuiz") ∈ nestL := List.mem_of_getElem? (i := 11) rfl
theorem nw_12 : (Jvm.Cond.fieldLinkNest "CodeQuiz$Machine" (61 : Nat) "CodeQuiz$Program" "xs" "[I" "CodeQuiz") ∈ nestL := List.mem_of_getElem? (i := 12) rfl
theorem nw_13 : (Jvm.Cond.fieldLinkNest "CodeQuiz" (105 : Nat) "CodeQuiz$Program" "ys" "[I" "CodeQuiz") ∈ nestL := List.mem_of_getElem? (i := 13) rfl
theorem nw_14 : (Jvm.Cond.fieldLinkNest "CodeQuiz$Machine" (64 : Nat) "CodeQuiz$Program" "ys" "[I" "CodeQuiz") ∈ nestL := List.mem_of_getElem? (i := 14) rfl
theorem nw_15 : (Jvm.Cond.fieldLinkNest "CodeQuiz" (108 : Nat) "CodeQuiz$Program" "depths" "[I" "CodeQuiz") ∈ nestL := List.mem_of_getElem? (i := 15) rfl
theorem nw_16 : (Jvm.Cond.fieldLinkNest "CodeQuiz$Machine" (78 : Nat) "CodeQuiz$Program" "mates" "[I" "CodeQuiz") ∈ nestL := List.mem_of_getElem? (i := 16) rfl
theorem nw_17 : (Jvm.Cond.fieldLinkNest "CodeQuiz$Machine" (36 : Nat) "CodeQuiz$Program" "size" "I" "CodeQuiz") ∈ nestL := List.mem_of_getElem? (i := 17) rfl
theorem nw_18 : (Jvm.Cond.fieldLinkNest "CodeQuiz" (84 : Nat) "CodeQuiz$Program" "size" "I" "CodeQuiz") ∈ nestL := List.mem_of_getElem? (i := 18) rfl
theorem nw_19 : (Jvm.Cond.fieldLinkNest "CodeQuiz" (76 : Nat) "CodeQuiz$Program" "asked" "Z" "CodeQuiz") ∈ nestL := List.mem_of_getElem? (i := 19) rfl
theorem nw_20 : (Jvm.Cond.methodLinkNest "CodeQuiz" (80 : Nat) ({ cls := "CodeQuiz$Program", name := "isWhole", desc := "()Z" } : Jvm.MethodName) "CodeQuiz") ∈ nestL := List.mem_of_getElem? (i := 20) rfl
theorem nw_21 : (Jvm.Cond.methodLinkNest "CodeQuiz" (90 : Nat) ({ cls := "CodeQuiz$Program", name := "append", desc := "(III)I" } : Jvm.MethodName) "CodeQuiz") ∈ nestL := List.mem_of_getElem? (i := 21) rfl
theorem nw_22 : (Jvm.Cond.methodLinkNest "CodeQuiz" (94 : Nat) ({ cls := "CodeQuiz$Program", name := "hasLine", desc := "(I)Z" } : Jvm.MethodName) "CodeQuiz") ∈ nestL := List.mem_of_getElem? (i := 22) rfl
theorem nw_23 : (Jvm.Cond.methodLinkNest "CodeQuiz" (117 : Nat) ({ cls := "CodeQuiz$Machine", name := "perform", desc := "(LCodeQuiz$Program;II)V" } : Jvm.MethodName) "CodeQuiz") ∈ nestL := List.mem_of_getElem? (i := 23) rfl
theorem nw_24 : (Jvm.Cond.methodLinkNest "CodeQuiz" (130 : Nat) ({ cls := "CodeQuiz$Machine", name := "cellOf", desc := "(I)I" } : Jvm.MethodName) "CodeQuiz") ∈ nestL := List.mem_of_getElem? (i := 24) rfl
theorem nw_25 : (Jvm.Cond.methodLinkNest "CodeQuiz" (137 : Nat) ({ cls := "CodeQuiz$Machine", name := "namesShare", desc := "()Z" } : Jvm.MethodName) "CodeQuiz") ∈ nestL := List.mem_of_getElem? (i := 25) rfl
theorem nw_26 : (Jvm.Cond.methodLinkNest "CodeQuiz" (153 : Nat) ({ cls := "CodeQuiz$Question", name := "<init>", desc := "(LCodeQuiz$Program;III)V" } : Jvm.MethodName) "CodeQuiz") ∈ nestL := List.mem_of_getElem? (i := 26) rfl
theorem nw_27 : (Jvm.Cond.fieldLinkNest "CodeQuiz" (195 : Nat) "CodeQuiz$Question" "program" "LCodeQuiz$Program;" "CodeQuiz") ∈ nestL := List.mem_of_getElem? (i := 27) rfl
theorem nw_28 : (Jvm.Cond.fieldLinkNest "CodeQuiz" (258 : Nat) "CodeQuiz$Question" "input" "I" "CodeQuiz") ∈ nestL := List.mem_of_getElem? (i := 28) rfl
theorem nw_29 : (Jvm.Cond.fieldLinkNest "CodeQuiz" (192 : Nat) "CodeQuiz$Question" "kind" "I" "CodeQuiz") ∈ nestL := List.mem_of_getElem? (i := 29) rfl
theorem nw_30 : (Jvm.Cond.fieldLinkNest "CodeQuiz" (199 : Nat) "CodeQuiz$Question" "what" "I" "CodeQuiz") ∈ nestL := List.mem_of_getElem? (i := 30) rfl
theorem nw_31 : (Jvm.Cond.fieldLinkNest "CodeQuiz" (268 : Nat) "CodeQuiz$Question" "answers" "[I" "CodeQuiz") ∈ nestL := List.mem_of_getElem? (i := 31) rfl
theorem nw_32 : (Jvm.Cond.methodLinkNest "CodeQuiz" (255 : Nat) ({ cls := "CodeQuiz$Question", name := "knows", desc := "(I)Z" } : Jvm.MethodName) "CodeQuiz") ∈ nestL := List.mem_of_getElem? (i := 32) rfl
theorem nw_33 : (Jvm.Cond.methodLinkNest "CodeQuiz$Question" (33 : Nat) ({ cls := "CodeQuiz", name := "hasBit", desc := "(JI)Z" } : Jvm.MethodName) "CodeQuiz") ∈ nestL := List.mem_of_getElem? (i := 33) rfl
theorem nw_34 : (Jvm.Cond.methodLinkNest "CodeQuiz" (261 : Nat) ({ cls := "CodeQuiz$Machine", name := "answerTo", desc := "(II)I" } : Jvm.MethodName) "CodeQuiz") ∈ nestL := List.mem_of_getElem? (i := 34) rfl
theorem nw_35 : (Jvm.Cond.methodLinkNest "CodeQuiz" (264 : Nat) ({ cls := "CodeQuiz$Question", name := "keep", desc := "(II)V" } : Jvm.MethodName) "CodeQuiz") ∈ nestL := List.mem_of_getElem? (i := 35) rfl
theorem nw_36 : (Jvm.Cond.methodLinkNest "CodeQuiz" (288 : Nat) ({ cls := "CodeQuiz$Machine", name := "endsLike", desc := "(LCodeQuiz$Machine;)Z" } : Jvm.MethodName) "CodeQuiz") ∈ nestL := List.mem_of_getElem? (i := 36) rfl
theorem nw_37 : (Jvm.Cond.methodLinkNest "CodeQuiz" (202 : Nat) ({ cls := "CodeQuiz$Machine", name := "endsWithVariablesOf", desc := "(LCodeQuiz$Machine;)Z" } : Jvm.MethodName) "CodeQuiz") ∈ nestL := List.mem_of_getElem? (i := 37) rfl
theorem nw_38 : (Jvm.Cond.methodLinkNest "CodeQuiz" (209 : Nat) ({ cls := "CodeQuiz$Pupil", name := "note", desc := "(II)I" } : Jvm.MethodName) "CodeQuiz") ∈ nestL := List.mem_of_getElem? (i := 38) rfl
theorem nw_39 : (Jvm.Cond.methodLinkNest "CodeQuiz" (225 : Nat) ({ cls := "CodeQuiz$Pupil", name := "hasAnswered", desc := "(I)Z" } : Jvm.MethodName) "CodeQuiz") ∈ nestL := List.mem_of_getElem? (i := 39) rfl
theorem nw_40 : (Jvm.Cond.methodLinkNest "CodeQuiz$Pupil" (19 : Nat) ({ cls := "CodeQuiz", name := "hasBit", desc := "(JI)Z" } : Jvm.MethodName) "CodeQuiz") ∈ nestL := List.mem_of_getElem? (i := 40) rfl
theorem ao_0 : (Jvm.Cond.arrayOver (Jvm.ClassFile.FieldType.object "CodeQuiz$Program")) ∈ lw_tbl := lwt_1 (List.mem_of_getElem? (i := 20) (by decide +kernel))
theorem ao_1 : (Jvm.Cond.arrayOver (Jvm.ClassFile.FieldType.object "CodeQuiz$Question")) ∈ lw_tbl := lwt_1 (List.mem_of_getElem? (i := 22) (by decide +kernel))
theorem ao_2 : (Jvm.Cond.arrayOver (Jvm.ClassFile.FieldType.object "CodeQuiz$Pupil")) ∈ lw_tbl := lwt_1 (List.mem_of_getElem? (i := 24) (by decide +kernel))
end
section
/-! FRAME: V, a method's walk as one judgement over locals, stack and world; CT, the form of every contract; a row an instruction -/
abbrev TG : Type := Launch × va_G × (Nat → ClassId)
abbrev gl (G : TG) : Launch := G.1
abbrev gD (G : TG) : va_G := G.2.1
abbrev gy (G : TG) : Nat → ClassId := G.2.2
abbrev TX : Type := Program × Env × State × MethodId × Array Value × List Frame × Method × Code × (Nat → Prop)
abbrev xp (X : TX) : Program := X.1
abbrev xe (X : TX) : Env := X.2.1
abbrev xs (X : TX) : State := X.2.2.1
abbrev xm (X : TX) : MethodId := X.2.2.2.1
abbrev xa (X : TX) : Array Value := X.2.2.2.2.1
abbrev xb (X : TX) : List Frame := X.2.2.2.2.2.1
abbrev xt (X : TX) : Method := X.2.2.2.2.2.2.1
abbrev xc (X : TX) : Code := X.2.2.2.2.2.2.2.1
abbrev xA (X : TX) : Nat → Prop := X.2.2.2.2.2.2.2.2
/-- the array classes: int, long, boolean, Program, Question, Pupil -/
def tysOf (cy : Nat → ClassId) : List (ClassId × FieldType) := [(cy 0, .int), (cy 1, .long), (cy 2, .boolean), (cy 3, .object "CodeQuiz$Program"), (cy 4, .object "CodeQuiz$Question"), (cy 5, .object "CodeQuiz$Pupil")]
def isNest : Cond → Bool
  | .fieldLinkNest .. => true
  | .methodLinkNest .. => true
  | _ => false
theorem nestL_is : ∀ w ∈ nestL, isNest w = true := List.all_eq_true.mp (by decide +kernel)
theorem nest_warm {w : Cond} (hn : isNest w = true) {s U : State} (hW : s.WarmedH U.vm) (h : va_Nw w s) : va_Nw w U := by
  cases w <;> first | exact va_Nw.warmF hW h | exact va_Nw.warmM hW h | (simp [isNest] at hn)
theorem nest_on {w : Cond} (hn : isNest w = true) : w.onTables = true := by
  cases w <;> first | rfl | (simp [isNest] at hn)
/-- what the tables say at every method's start -/
def KK (G : TG) (U : State) : Prop := va_K (gD G) vwCl (tysOf (gy G)) U ∧ (∀ w ∈ nestL, va_Nw w U) ∧ va_AO "CodeQuiz$Program" U ∧ va_AO "CodeQuiz$Question" U ∧ va_AO "CodeQuiz$Pupil" U
theorem KK.warm {G : TG} {s U : State} (hW : s.WarmedH U.vm) (h : KK G s) : KK G U :=
  ⟨va_K.moved hW.alike h.1, fun w hw => nest_warm (nestL_is w hw) hW (h.2.1 w hw), h.2.2.1.moved hW.alike, h.2.2.2.1.moved hW.alike, h.2.2.2.2.moved hW.alike⟩
theorem KK.calling {G : TG} {U : State} {g : JFrame} {mk : MethodId} {a : Array Value} (h : KK G U) : KK G (U.calling g mk a) :=
  ⟨va_K.moved (u := U) (U := U.calling g mk a) (Vm.Alike.refl U.vm) h.1, fun w hw => va_Nw.same (u := U) (U := U.calling g mk a) (nest_on (nestL_is w hw)) rfl (h.2.1 w hw), va_AO.moved (u := U) (U := U.calling g mk a) (Vm.Alike.refl U.vm) h.2.2.1, va_AO.moved (u := U) (U := U.calling g mk a) (Vm.Alike.refl U.vm) h.2.2.2.1, va_AO.moved (u := U) (U := U.calling g mk a) (Vm.Alike.refl U.vm) h.2.2.2.2⟩
/-- locals as a function -/
def lvf (ls : Array Slot) (nL : Nat) (lv : Nat → Option Value) : Prop := ls.size = nL ∧ lv_wf ls ∧ ∀ (i : Nat) (v : Value), lv i = some v → ls[i]? = some (.val v)
def lvo : List (Nat × Value) → Nat → Option Value
  | [], _ => none
  | q :: t, i => if i = q.1 then some q.2 else lvo t i
theorem lvo_mem {l : List (Nat × Value)} {i : Nat} {v : Value} (h : lvo l i = some v) : (i, v) ∈ l := by
  induction l with
  | nil => simp [lvo] at h
  | cons q t ih =>
    unfold lvo at h
    by_cases hi : i = q.1
    · rw [if_pos hi] at h
      cases h
      subst hi
      exact List.mem_cons_self
    · rw [if_neg hi] at h
      exact List.mem_cons_of_mem _ (ih h)
theorem lvf_of {ls : Array Slot} {nL : Nat} {l : List (Nat × Value)} (h : lv_has ls nL l) : lvf ls nL (lvo l) := ⟨h.1, h.2.1, fun _ _ hv => h.2.2 _ (lvo_mem hv)⟩
/-- storing one slot, two slots -/
def s1 (lv : Nat → Option Value) (i : Nat) (v : Value) : Nat → Option Value := fun j => if j = i then some v else if j + 1 = i then (match lv j with | some u => if u.category = 2 then none else some u | none => none) else lv j
def s2 (lv : Nat → Option Value) (i : Nat) (v : Value) : Nat → Option Value := fun j => if j = i then some v else if j = i + 1 then none else if j + 1 = i then (match lv j with | some u => if u.category = 2 then none else some u | none => none) else lv j
def lvl (lv : Nat → Option Value) (nL : Nat) : List (Nat × Value) := (List.range nL).filterMap (fun i => (lv i).map (fun v => (i, v)))
theorem lvl_mem {lv : Nat → Option Value} {nL i : Nat} {v : Value} (h : i < nL) (hv : lv i = some v) : (i, v) ∈ lvl lv nL := List.mem_filterMap.mpr ⟨i, List.mem_range.mpr h, by rw [hv]; rfl⟩
theorem lvl_has {ls : Array Slot} {nL : Nat} {lv : Nat → Option Value} (h : lvf ls nL lv) : lv_has ls nL (lvl lv nL) := by
  refine ⟨h.1, h.2.1, fun q hq => ?_⟩
  obtain ⟨i, -, hi⟩ := List.mem_filterMap.mp hq
  cases hl : lv i with
  | none => rw [hl] at hi; cases hi
  | some v => rw [hl] at hi; cases hi; exact h.2.2 i v hl
theorem lvf.lt {ls : Array Slot} {nL i : Nat} {lv : Nat → Option Value} {v : Value} (h : lvf ls nL lv) (hv : lv i = some v) : i < nL := by
  rw [← h.1]; exact lv_lt (h.2.2 i v hv)
theorem lvf.s1 {ls ls' : Array Slot} {nL i : Nat} {lv : Nat → Option Value} {v : Value} (h : lvf ls nL lv) (h' : lv_has ls' nL ((i, v) :: (lvl lv nL).filter (fun q => !(q.1 == i) && !(q.1 + 1 == i && q.2.category == 2)))) : lvf ls' nL (s1 lv i v) := by
  refine ⟨h'.1, h'.2.1, fun j u hu => ?_⟩
  unfold Jvm.Pilot.CCodeQuizLaw_law_r6943_62e6b7.s1 at hu
  by_cases h1 : j = i
  · rw [if_pos h1] at hu
    cases hu
    subst h1
    exact h'.2.2 (j, v) List.mem_cons_self
  · rw [if_neg h1] at hu
    by_cases h2 : j + 1 = i
    · rw [if_pos h2] at hu
      cases hl : lv j with
      | none => rw [hl] at hu; cases hu
      | some u' =>
        rw [hl] at hu
        by_cases h3 : u'.category = 2
        · simp [h3] at hu
        · simp [h3] at hu
          subst hu
          refine h'.2.2 (j, u') (List.mem_cons_of_mem _ (List.mem_filter.mpr ⟨lvl_mem (h.lt hl) hl, ?_⟩))
          simp [h1, h3]
    · rw [if_neg h2] at hu
      refine h'.2.2 (j, u) (List.mem_cons_of_mem _ (List.mem_filter.mpr ⟨lvl_mem (h.lt hu) hu, ?_⟩))
      simp [h1, h2]
theorem lvf.s2 {ls ls' : Array Slot} {nL i : Nat} {lv : Nat → Option Value} {v : Value} (h : lvf ls nL lv) (h' : lv_has ls' nL ((i, v) :: (lvl lv nL).filter (fun q => !(q.1 == i) && (!(q.1 == i + 1) && !(q.1 + 1 == i && q.2.category == 2))))) : lvf ls' nL (s2 lv i v) := by
  refine ⟨h'.1, h'.2.1, fun j u hu => ?_⟩
  unfold Jvm.Pilot.CCodeQuizLaw_law_r6943_62e6b7.s2 at hu
  by_cases h1 : j = i
  · rw [if_pos h1] at hu
    cases hu
    subst h1
    exact h'.2.2 (j, v) List.mem_cons_self
  · rw [if_neg h1] at hu
    by_cases h4 : j = i + 1
    · rw [if_pos h4] at hu
      cases hu
    · rw [if_neg h4] at hu
      by_cases h2 : j + 1 = i
      · rw [if_pos h2] at hu
        cases hl : lv j with
        | none => rw [hl] at hu; cases hu
        | some u' =>
          rw [hl] at hu
          by_cases h3 : u'.category = 2
          · simp [h3] at hu
          · simp [h3] at hu
            subst hu
            refine h'.2.2 (j, u') (List.mem_cons_of_mem _ (List.mem_filter.mpr ⟨lvl_mem (h.lt hl) hl, ?_⟩))
            simp [h1, h3, h4]
      · rw [if_neg h2] at hu
        refine h'.2.2 (j, u) (List.mem_cons_of_mem _ (List.mem_filter.mpr ⟨lvl_mem (h.lt hu) hu, ?_⟩))
        simp [h1, h2, h4]
/-- fewer locals: each listed one is held -/
def lvsub (lv : Nat → Option Value) : List (Nat × Value) → Prop
  | [] => True
  | q :: t => lv q.1 = some q.2 ∧ lvsub lv t
theorem lvsub_mem {lv : Nat → Option Value} {l : List (Nat × Value)} (h : lvsub lv l) : ∀ q ∈ l, lv q.1 = some q.2 := by
  induction l with
  | nil => intro q hq; cases hq
  | cons a t ih =>
    intro q hq
    rcases List.mem_cons.mp hq with rfl | hq
    · exact h.1
    · exact ih h.2 q hq
/-- the walk -/
def V (G : TG) (X : TX) (cc : ByteArray) (nL : Nat) (R : Room) (Q : State → Prop) (cells slots pc : Nat) (lv : Nat → Option Value) (st : List Value) (ws : va_W) : Prop :=
  ∀ (H : Heap) (locs : List Loc) (ls : Array Slot), lvf ls nL lv → va_P (gD G) vwCl ws H → va_D (xA X) ws → va_S (xA X) (xs X).heap H locs → W (xp X) (gl G) (xe X) R (xs X) (xm X) (xa X) (xb X) (xt X) (xc X) H locs cells slots Q (F0 (xm X) pc ls st)
def OK (G : TG) (X : TX) (cc : ByteArray) (own : String) (nL : Nat) (ret : Option FieldType) : Prop :=
  (xp X).tables.exec = Jvm.exec ∧ (xc X).code = cc ∧ (∀ w ∈ W0, w.before (xa X) (xs X) = true) ∧ KK G (xs X) ∧ (xs X).vm.findClass own = some (xm X).cls ∧ (xc X).maxLocals = nL ∧ (xt X).locks = false ∧ (∀ q : Nat, (xs X).heap.size ≤ q → (xA X) q) ∧ (xt X).sig.returnType = ret
/-- a contract's end, its form -/
def QC {S : Type} (D : va_G) (A : Nat → Prop) (w : S → va_W) (post : Option Value → S → Prop) : Array Value → State → Outcome → State → Prop := fun _ st oc t => (∃ (v : Option Value) (u : S), oc = .returned v ∧ post v u ∧ va_P D vwCl (w u) t.heap ∧ va_D A (w u)) ∧ va_F A st t
def CT (G : TG) (y : MethodName) (cc : ByteArray) (nL : Nat) (ret : Option FieldType) (rm : Room) (mc ms : Nat) (av : List Value) (ws : va_W) {S : Type} (w : S → va_W) (post : Option Value → S → Prop) : Prop :=
  ∀ sz : Nat, Met (gl G) y (.code y cc nL ret :: W0) rm (va_Pc av (fun U => U.heap.size = sz ∧ va_P (gD G) vwCl ws U.heap ∧ KK G U ∧ va_D (fun _ => True) ws)) (QC (gD G) (va_A ws sz) w post) mc ms (va_A ws sz)
def QX (G : TG) (X : TX) {S : Type} (w : S → va_W) (post : Option Value → S → Prop) (mc ms : Nat) : State → Prop := MQ (xb X) (QC (gD G) (xA X) w post) (xa X) (xs X) mc ms (xA X)
def Ri {S : Type} (f : Int32 → S → Prop) : Option Value → S → Prop := fun v u => ∃ r : Int32, v = some (.int r) ∧ f r u
def Rl {S : Type} (f : Int64 → S → Prop) : Option Value → S → Prop := fun v u => ∃ r : Int64, v = some (.long r) ∧ f r u
def Rv {S : Type} (f : S → Prop) : Option Value → S → Prop := fun v u => v = none ∧ f u
def Rq {S : Type} (f : Option Nat → S → Prop) : Option Value → S → Prop := fun v u => ∃ r : Option Nat, v = some (va_rf r) ∧ f r u
theorem CT.enter {G : TG} {y : MethodName} {cc : ByteArray} {nL : Nat} {ret : Option FieldType} {rm : Room} {mc ms : Nat} {av : List Value} {ws : va_W} {S : Type} {w : S → va_W} {post : Option Value → S → Prop} (hy : plainName y.cls = true) (ha : (lg_sl av).length ≤ nL)
    (body : ∀ X : TX, OK G X cc y.cls nL ret → (xt X).name = y.name → V G X cc nL rm (QX G X w post mc ms) 0 0 0 (lvo (lv_args 0 av)) [] ws) : CT G y cc nL ret rm mc ms av ws w post := by
  intro sz
  refine Met.ofW (cc := cc) (maxL := nL) (ret := ret) hy rfl ?_
  intro p e s m args below meth c s₁ B hml hv
  obtain ⟨rfl, hsz, hP, hK, hD0⟩ := hv
  subst hsz
  have hD := hD0.self (sz := s.heap.size)
  have hts := atoms_spec (ws := .code y cc nL ret :: W0) B.pre
  have hl := lv_entry av (n := nL) ha
  rw [lg_entry_eq]
  exact body (p, e, s, m, av.toArray, below, meth, c, va_A ws s.heap.size) ⟨B.exec, B.bytes, fun w hw => hts w (List.mem_cons_of_mem _ hw), hK, findClass_of_methodNamed B.named, hml, B.notSynchronized, fun q h => Or.inr h, B.returns⟩ (name_of_methodNamed B.named B.method).1 s.heap [] _ (lvf_of hl) hP hD va_S.rf
section VR
variable {G : TG} {X : TX} {cc : ByteArray} {own : String} {nL : Nat} {ret : Option FieldType} {R : Room} {Q : State → Prop} {cells slots pc : Nat} {lv : Nat → Option Value} {st : List Value} {ws : va_W}
theorem V.same {ws' : va_W} (h : ws = ws') (kk : V G X cc nL R Q cells slots pc lv st ws') : V G X cc nL R Q cells slots pc lv st ws := h ▸ kk
theorem V.perm {ws' : va_W} (h : ws.Perm ws') (kk : V G X cc nL R Q cells slots pc lv st ws') : V G X cc nL R Q cells slots pc lv st ws := by
  intro H locs ls hl hP hD hS
  refine kk H locs ls hl (fun k q hk => ?_) ⟨?_, fun k q hk => ?_⟩ hS
  · obtain ⟨i, hi⟩ := List.getElem?_of_mem (h.mem_iff.mpr (List.mem_of_getElem? hk))
    exact hP i q hi
  · have hn : (ws.map (fun q => q.1)).Nodup := by
      refine List.pairwise_iff_getElem.mpr (fun i j hi hj hij he => ?_)
      rw [List.length_map] at hi hj
      rw [List.getElem_map, List.getElem_map] at he
      have := hD.1 i j _ _ (List.getElem?_eq_getElem hi) (List.getElem?_eq_getElem hj) he
      omega
    have hn' : (ws'.map (fun q => q.1)).Nodup := ((h.map (fun q => q.1)).nodup_iff).mp hn
    have hn2 := List.pairwise_iff_getElem.mp hn'
    intro i j a b ha hb hab
    obtain ⟨hi, ha⟩ := List.getElem?_eq_some_iff.mp ha
    obtain ⟨hj, hb⟩ := List.getElem?_eq_some_iff.mp hb
    rcases Nat.lt_trichotomy i j with h1 | h1 | h1
    · exact absurd (by rw [List.getElem_map, List.getElem_map, ha, hb]; exact hab) (hn2 i j (by rw [List.length_map]; exact hi) (by rw [List.length_map]; exact hj) h1)
    · exact h1
    · exact absurd (by rw [List.getElem_map, List.getElem_map, ha, hb]; exact hab.symm) (hn2 j i (by rw [List.length_map]; exact hj) (by rw [List.length_map]; exact hi) h1)
  · obtain ⟨i, hi⟩ := List.getElem?_of_mem (h.mem_iff.mpr (List.mem_of_getElem? hk))
    exact hD.2 i q hi
theorem V.less (l : List (Nat × Value)) (h : lvsub lv l) (kk : V G X cc nL R Q cells slots pc (lvo l) st ws) : V G X cc nL R Q cells slots pc lv st ws :=
  fun H locs ls hl hP hD hS => kk H locs ls ⟨hl.1, hl.2.1, fun _ _ hv => hl.2.2 _ _ (lvsub_mem h _ (lvo_mem hv))⟩ hP hD hS
theorem V.wide {k n : Nat} (h1 : cells ≤ k) (h2 : slots ≤ n) (kk : V G X cc nL R Q k n pc lv st ws) : V G X cc nL R Q cells slots pc lv st ws :=
  fun H locs ls hl hP hD hS => W.widen h1 h2 (kk H locs ls hl hP hD hS)
theorem v_cv {x y : Int32} (h : x = y) (kk : V G X cc nL R Q cells slots pc lv (.int y :: st) ws) : V G X cc nL R Q cells slots pc lv (.int x :: st) ws := h ▸ kk
theorem v_cv2 {x y : Int32} {z : Value} (h : x = y) (kk : V G X cc nL R Q cells slots pc lv (z :: .int y :: st) ws) : V G X cc nL R Q cells slots pc lv (z :: .int x :: st) ws := h ▸ kk
theorem v_cvl {x y : Int64} (h : x = y) (kk : V G X cc nL R Q cells slots pc lv (.long y :: st) ws) : V G X cc nL R Q cells slots pc lv (.long x :: st) ws := h ▸ kk
theorem v_st {st' : List Value} (h : st = st') (kk : V G X cc nL R Q cells slots pc lv st' ws) : V G X cc nL R Q cells slots pc lv st ws := h ▸ kk
theorem v_iconst (C : OK G X cc own nL ret) {n : Int} {v : Int32} (hd : decode cc pc = .ok (.iconst n, 1)) (hv : Int32.ofInt n = v) (kk : V G X cc nL R Q cells slots (pc + 1) lv (.int v :: st) ws) : V G X cc nL R Q cells slots pc lv (st) ws := fun H locs ls hl hP hD hS => lv_iconst C.1 C.2.1 hd hv (kk H locs ls hl hP hD hS)
theorem v_bipush (C : OK G X cc own nL ret) {n : Int} {v : Int32} (hd : decode cc pc = .ok (.bipush n, 2)) (hv : (Int8.ofInt n).toInt32 = v) (kk : V G X cc nL R Q cells slots (pc + 2) lv (.int v :: st) ws) : V G X cc nL R Q cells slots pc lv (st) ws := fun H locs ls hl hP hD hS => lv_bipush C.1 C.2.1 hd hv (kk H locs ls hl hP hD hS)
theorem v_sipush (C : OK G X cc own nL ret) {n : Int} {v : Int32} (hd : decode cc pc = .ok (.sipush n, 3)) (hv : (Int16.ofInt n).toInt32 = v) (kk : V G X cc nL R Q cells slots (pc + 3) lv (.int v :: st) ws) : V G X cc nL R Q cells slots pc lv (st) ws := fun H locs ls hl hP hD hS => lv_sipush C.1 C.2.1 hd hv (kk H locs ls hl hP hD hS)
theorem v_lconst (C : OK G X cc own nL ret) {n : Fin 2} {v : Int64} (hd : decode cc pc = .ok (.lconst n, 1)) (hv : Int64.ofNat (n : Nat) = v) (kk : V G X cc nL R Q cells slots (pc + 1) lv (.long v :: st) ws) : V G X cc nL R Q cells slots pc lv (st) ws := fun H locs ls hl hP hD hS => lv_lconst C.1 C.2.1 hd hv (kk H locs ls hl hP hD hS)
theorem v_null (C : OK G X cc own nL ret) (hd : decode cc pc = .ok (.aconst_null, 1)) (kk : V G X cc nL R Q cells slots (pc + 1) lv (.null :: st) ws) : V G X cc nL R Q cells slots pc lv (st) ws := fun H locs ls hl hP hD hS => lv_null C.1 C.2.1 hd (kk H locs ls hl hP hD hS)
theorem v_ldc (C : OK G X cc own nL ret) {i : Nat} {v : Int32} (hd : decode cc pc = .ok (.ldc i, 2)) (k : Cond.constant own i v ∈ W0) (kk : V G X cc nL R Q cells slots (pc + 2) lv (.int v :: st) ws) : V G X cc nL R Q cells slots pc lv (st) ws := fun H locs ls hl hP hD hS => lv_ldc C.1 C.2.1 C.2.2.2.2.1 (C.2.2.1 _ k) hd (kk H locs ls hl hP hD hS)
theorem v_ldc2 (C : OK G X cc own nL ret) {i : Nat} {v : Int64} (hd : decode cc pc = .ok (.ldc2_w i, 3)) (k : Cond.constantLong own i v ∈ W0) (kk : V G X cc nL R Q cells slots (pc + 3) lv (.long v :: st) ws) : V G X cc nL R Q cells slots pc lv (st) ws := fun H locs ls hl hP hD hS => lv_ldc2 C.1 C.2.1 C.2.2.2.2.1 (C.2.2.1 _ k) hd (kk H locs ls hl hP hD hS)
theorem v_ldcw (C : OK G X cc own nL ret) {i : Nat} {v : Int32} (hd : decode cc pc = .ok (.ldc_w i, 3)) (k : Cond.constant own i v ∈ W0) (kk : V G X cc nL R Q cells slots (pc + 3) lv (.int v :: st) ws) : V G X cc nL R Q cells slots pc lv (st) ws := fun H locs ls hl hP hD hS => lv_ldcw C.1 C.2.1 C.2.2.2.2.1 (C.2.2.1 _ k) hd (kk H locs ls hl hP hD hS)
theorem v_iload_n (C : OK G X cc own nL ret) {k : Fin 4} {x : Int32} (hd : decode cc pc = .ok (.iload_n k, 1)) (h : lv (k : Nat) = some (.int x)) (kk : V G X cc nL R Q cells slots (pc + 1) lv (.int x :: st) ws) : V G X cc nL R Q cells slots pc lv (st) ws := fun H locs ls hl hP hD hS => lv_iload_n C.1 C.2.1 hd rfl (hl.2.2 _ _ h) (kk H locs ls hl hP hD hS)
theorem v_iload (C : OK G X cc own nL ret) {i : Nat} {x : Int32} (hd : decode cc pc = .ok (.iload i, 2)) (h : lv i = some (.int x)) (kk : V G X cc nL R Q cells slots (pc + 2) lv (.int x :: st) ws) : V G X cc nL R Q cells slots pc lv (st) ws := fun H locs ls hl hP hD hS => lv_iload C.1 C.2.1 hd (hl.2.2 _ _ h) (kk H locs ls hl hP hD hS)
theorem v_istore_n (C : OK G X cc own nL ret) {k : Fin 4} {x : Int32} (hd : decode cc pc = .ok (.istore_n k, 1)) (h : (k : Nat) < nL) (kk : V G X cc nL R Q cells slots (pc + 1) (s1 lv (k : Nat) (.int x)) (st) ws) : V G X cc nL R Q cells slots pc lv (.int x :: st) ws := fun H locs ls hl hP hD hS => lv_istore_n (lv := lvl lv nL) C.1 C.2.1 hd rfl (lvl_has hl) h rfl (fun ls' hl' => kk H locs ls' (hl.s1 hl') hP hD hS)
theorem v_istore (C : OK G X cc own nL ret) {i : Nat} {x : Int32} (hd : decode cc pc = .ok (.istore i, 2)) (h : i < nL) (kk : V G X cc nL R Q cells slots (pc + 2) (s1 lv i (.int x)) (st) ws) : V G X cc nL R Q cells slots pc lv (.int x :: st) ws := fun H locs ls hl hP hD hS => lv_istore (lv := lvl lv nL) C.1 C.2.1 hd (lvl_has hl) h rfl (fun ls' hl' => kk H locs ls' (hl.s1 hl') hP hD hS)
theorem v_lload_n (C : OK G X cc own nL ret) {k : Fin 4} {x : Int64} (hd : decode cc pc = .ok (.lload_n k, 1)) (h : lv (k : Nat) = some (.long x)) (kk : V G X cc nL R Q cells slots (pc + 1) lv (.long x :: st) ws) : V G X cc nL R Q cells slots pc lv (st) ws := fun H locs ls hl hP hD hS => lv_lload_n C.1 C.2.1 hd rfl (hl.2.2 _ _ h) (kk H locs ls hl hP hD hS)
theorem v_lload (C : OK G X cc own nL ret) {i : Nat} {x : Int64} (hd : decode cc pc = .ok (.lload i, 2)) (h : lv i = some (.long x)) (kk : V G X cc nL R Q cells slots (pc + 2) lv (.long x :: st) ws) : V G X cc nL R Q cells slots pc lv (st) ws := fun H locs ls hl hP hD hS => lv_lload C.1 C.2.1 hd (hl.2.2 _ _ h) (kk H locs ls hl hP hD hS)
theorem v_lstore_n (C : OK G X cc own nL ret) {k : Fin 4} {x : Int64} (hd : decode cc pc = .ok (.lstore_n k, 1)) (h : (k : Nat) + 1 < nL) (kk : V G X cc nL R Q cells slots (pc + 1) (s2 lv (k : Nat) (.long x)) (st) ws) : V G X cc nL R Q cells slots pc lv (.long x :: st) ws := fun H locs ls hl hP hD hS => lv_lstore_n (lv := lvl lv nL) C.1 C.2.1 hd rfl (lvl_has hl) h rfl (fun ls' hl' => kk H locs ls' (hl.s2 hl') hP hD hS)
theorem v_lstore (C : OK G X cc own nL ret) {i : Nat} {x : Int64} (hd : decode cc pc = .ok (.lstore i, 2)) (h : i + 1 < nL) (kk : V G X cc nL R Q cells slots (pc + 2) (s2 lv i (.long x)) (st) ws) : V G X cc nL R Q cells slots pc lv (.long x :: st) ws := fun H locs ls hl hP hD hS => lv_lstore (lv := lvl lv nL) C.1 C.2.1 hd (lvl_has hl) h rfl (fun ls' hl' => kk H locs ls' (hl.s2 hl') hP hD hS)
theorem v_aload_n (C : OK G X cc own nL ret) {k : Fin 4} {x : Nat} (hd : decode cc pc = .ok (.aload_n k, 1)) (h : lv (k : Nat) = some (.ref x)) (kk : V G X cc nL R Q cells slots (pc + 1) lv (.ref x :: st) ws) : V G X cc nL R Q cells slots pc lv (st) ws := fun H locs ls hl hP hD hS => lv_aload_n C.1 C.2.1 hd rfl (hl.2.2 _ _ h) (kk H locs ls hl hP hD hS)
theorem v_aload (C : OK G X cc own nL ret) {i : Nat} {x : Nat} (hd : decode cc pc = .ok (.aload i, 2)) (h : lv i = some (.ref x)) (kk : V G X cc nL R Q cells slots (pc + 2) lv (.ref x :: st) ws) : V G X cc nL R Q cells slots pc lv (st) ws := fun H locs ls hl hP hD hS => lv_aload C.1 C.2.1 hd (hl.2.2 _ _ h) (kk H locs ls hl hP hD hS)
theorem v_astore_n (C : OK G X cc own nL ret) {k : Fin 4} {x : Nat} (hd : decode cc pc = .ok (.astore_n k, 1)) (h : (k : Nat) < nL) (kk : V G X cc nL R Q cells slots (pc + 1) (s1 lv (k : Nat) (.ref x)) (st) ws) : V G X cc nL R Q cells slots pc lv (.ref x :: st) ws := fun H locs ls hl hP hD hS => lv_astore_n (lv := lvl lv nL) C.1 C.2.1 hd rfl (lvl_has hl) h rfl (fun ls' hl' => kk H locs ls' (hl.s1 hl') hP hD hS)
theorem v_astore (C : OK G X cc own nL ret) {i : Nat} {x : Nat} (hd : decode cc pc = .ok (.astore i, 2)) (h : i < nL) (kk : V G X cc nL R Q cells slots (pc + 2) (s1 lv i (.ref x)) (st) ws) : V G X cc nL R Q cells slots pc lv (.ref x :: st) ws := fun H locs ls hl hP hD hS => lv_astore (lv := lvl lv nL) C.1 C.2.1 hd (lvl_has hl) h rfl (fun ls' hl' => kk H locs ls' (hl.s1 hl') hP hD hS)
theorem v_aload_nN (C : OK G X cc own nL ret) {k : Fin 4} (hd : decode cc pc = .ok (.aload_n k, 1)) (h : lv (k : Nat) = some .null) (kk : V G X cc nL R Q cells slots (pc + 1) lv (.null :: st) ws) : V G X cc nL R Q cells slots pc lv (st) ws := fun H locs ls hl hP hD hS => lv_aload_nN C.1 C.2.1 hd rfl (hl.2.2 _ _ h) (kk H locs ls hl hP hD hS)
theorem v_aloadN (C : OK G X cc own nL ret) {i : Nat} (hd : decode cc pc = .ok (.aload i, 2)) (h : lv i = some .null) (kk : V G X cc nL R Q cells slots (pc + 2) lv (.null :: st) ws) : V G X cc nL R Q cells slots pc lv (st) ws := fun H locs ls hl hP hD hS => lv_aloadN C.1 C.2.1 hd (hl.2.2 _ _ h) (kk H locs ls hl hP hD hS)
theorem v_astore_nN (C : OK G X cc own nL ret) {k : Fin 4} (hd : decode cc pc = .ok (.astore_n k, 1)) (h : (k : Nat) < nL) (kk : V G X cc nL R Q cells slots (pc + 1) (s1 lv (k : Nat) .null) (st) ws) : V G X cc nL R Q cells slots pc lv (.null :: st) ws := fun H locs ls hl hP hD hS => lv_astore_nN (lv := lvl lv nL) C.1 C.2.1 hd rfl (lvl_has hl) h rfl (fun ls' hl' => kk H locs ls' (hl.s1 hl') hP hD hS)
theorem v_astoreN (C : OK G X cc own nL ret) {i : Nat} (hd : decode cc pc = .ok (.astore i, 2)) (h : i < nL) (kk : V G X cc nL R Q cells slots (pc + 2) (s1 lv i .null) (st) ws) : V G X cc nL R Q cells slots pc lv (.null :: st) ws := fun H locs ls hl hP hD hS => lv_astoreN (lv := lvl lv nL) C.1 C.2.1 hd (lvl_has hl) h rfl (fun ls' hl' => kk H locs ls' (hl.s1 hl') hP hD hS)
theorem v_iinc (C : OK G X cc own nL ret) {i : Nat} {n : Int} {x v : Int32} (hd : decode cc pc = .ok (.iinc i n, 3)) (h : lv i = some (.int x)) (hv : x + Int32.ofInt n = v) (kk : V G X cc nL R Q cells slots (pc + 3) (s1 lv i (.int v)) st ws) : V G X cc nL R Q cells slots pc lv st ws := by
  intro H locs ls hl hP hD hS
  obtain ⟨k, hk⟩ := List.getElem?_of_mem (lvl_mem (hl.lt h) h)
  exact lv_iinc (lv := lvl lv nL) C.1 C.2.1 hd (lvl_has hl) hk hv (hl.lt h) rfl (fun ls' hl' => kk H locs ls' (hl.s1 hl') hP hD hS)
theorem v_iadd (C : OK G X cc own nL ret) {x y : Int32} (hd : decode cc pc = .ok (.iadd, 1)) (kk : V G X cc nL R Q cells slots (pc + 1) lv (.int (x + y) :: st) ws) : V G X cc nL R Q cells slots pc lv (.int y :: .int x :: st) ws := fun H locs ls hl hP hD hS => lv_iadd C.1 C.2.1 hd (kk H locs ls hl hP hD hS)
theorem v_isub (C : OK G X cc own nL ret) {x y : Int32} (hd : decode cc pc = .ok (.isub, 1)) (kk : V G X cc nL R Q cells slots (pc + 1) lv (.int (x - y) :: st) ws) : V G X cc nL R Q cells slots pc lv (.int y :: .int x :: st) ws := fun H locs ls hl hP hD hS => lv_isub C.1 C.2.1 hd (kk H locs ls hl hP hD hS)
theorem v_imul (C : OK G X cc own nL ret) {x y : Int32} (hd : decode cc pc = .ok (.imul, 1)) (kk : V G X cc nL R Q cells slots (pc + 1) lv (.int (x * y) :: st) ws) : V G X cc nL R Q cells slots pc lv (.int y :: .int x :: st) ws := fun H locs ls hl hP hD hS => lv_imul C.1 C.2.1 hd (kk H locs ls hl hP hD hS)
theorem v_iand (C : OK G X cc own nL ret) {x y : Int32} (hd : decode cc pc = .ok (.iand, 1)) (kk : V G X cc nL R Q cells slots (pc + 1) lv (.int (x &&& y) :: st) ws) : V G X cc nL R Q cells slots pc lv (.int y :: .int x :: st) ws := fun H locs ls hl hP hD hS => lv_iand C.1 C.2.1 hd (kk H locs ls hl hP hD hS)
theorem v_ior (C : OK G X cc own nL ret) {x y : Int32} (hd : decode cc pc = .ok (.ior, 1)) (kk : V G X cc nL R Q cells slots (pc + 1) lv (.int (x ||| y) :: st) ws) : V G X cc nL R Q cells slots pc lv (.int y :: .int x :: st) ws := fun H locs ls hl hP hD hS => lv_ior C.1 C.2.1 hd (kk H locs ls hl hP hD hS)
theorem v_ishl (C : OK G X cc own nL ret) {x y : Int32} (hd : decode cc pc = .ok (.ishl, 1)) (kk : V G X cc nL R Q cells slots (pc + 1) lv (.int (x <<< (y &&& 31)) :: st) ws) : V G X cc nL R Q cells slots pc lv (.int y :: .int x :: st) ws := fun H locs ls hl hP hD hS => lv_ishl C.1 C.2.1 hd (kk H locs ls hl hP hD hS)
theorem v_ishr (C : OK G X cc own nL ret) {x y : Int32} (hd : decode cc pc = .ok (.ishr, 1)) (kk : V G X cc nL R Q cells slots (pc + 1) lv (.int (x >>> (y &&& 31)) :: st) ws) : V G X cc nL R Q cells slots pc lv (.int y :: .int x :: st) ws := fun H locs ls hl hP hD hS => lv_ishr C.1 C.2.1 hd (kk H locs ls hl hP hD hS)
theorem v_idiv (C : OK G X cc own nL ret) {x y : Int32} (hd : decode cc pc = .ok (.idiv, 1)) (h0 : ¬ y = 0) (kk : V G X cc nL R Q cells slots (pc + 1) lv (.int (x / y) :: st) ws) : V G X cc nL R Q cells slots pc lv (.int y :: .int x :: st) ws := fun H locs ls hl hP hD hS => lv_idiv C.1 C.2.1 hd h0 (kk H locs ls hl hP hD hS)
theorem v_irem (C : OK G X cc own nL ret) {x y : Int32} (hd : decode cc pc = .ok (.irem, 1)) (h0 : ¬ y = 0) (kk : V G X cc nL R Q cells slots (pc + 1) lv (.int (x - x / y * y) :: st) ws) : V G X cc nL R Q cells slots pc lv (.int y :: .int x :: st) ws := fun H locs ls hl hP hD hS => lv_irem C.1 C.2.1 hd h0 (kk H locs ls hl hP hD hS)
theorem v_ladd (C : OK G X cc own nL ret) {x y : Int64} (hd : decode cc pc = .ok (.ladd, 1)) (kk : V G X cc nL R Q cells slots (pc + 1) lv (.long (x + y) :: st) ws) : V G X cc nL R Q cells slots pc lv (.long y :: .long x :: st) ws := fun H locs ls hl hP hD hS => lv_ladd C.1 C.2.1 hd (kk H locs ls hl hP hD hS)
theorem v_lsub (C : OK G X cc own nL ret) {x y : Int64} (hd : decode cc pc = .ok (.lsub, 1)) (kk : V G X cc nL R Q cells slots (pc + 1) lv (.long (x - y) :: st) ws) : V G X cc nL R Q cells slots pc lv (.long y :: .long x :: st) ws := fun H locs ls hl hP hD hS => lv_lsub C.1 C.2.1 hd (kk H locs ls hl hP hD hS)
theorem v_land (C : OK G X cc own nL ret) {x y : Int64} (hd : decode cc pc = .ok (.land, 1)) (kk : V G X cc nL R Q cells slots (pc + 1) lv (.long (x &&& y) :: st) ws) : V G X cc nL R Q cells slots pc lv (.long y :: .long x :: st) ws := fun H locs ls hl hP hD hS => lv_land C.1 C.2.1 hd (kk H locs ls hl hP hD hS)
theorem v_lor (C : OK G X cc own nL ret) {x y : Int64} (hd : decode cc pc = .ok (.lor, 1)) (kk : V G X cc nL R Q cells slots (pc + 1) lv (.long (x ||| y) :: st) ws) : V G X cc nL R Q cells slots pc lv (.long y :: .long x :: st) ws := fun H locs ls hl hP hD hS => lv_lor C.1 C.2.1 hd (kk H locs ls hl hP hD hS)
theorem v_lxor (C : OK G X cc own nL ret) {x y : Int64} (hd : decode cc pc = .ok (.lxor, 1)) (kk : V G X cc nL R Q cells slots (pc + 1) lv (.long (x ^^^ y) :: st) ws) : V G X cc nL R Q cells slots pc lv (.long y :: .long x :: st) ws := fun H locs ls hl hP hD hS => lv_lxor C.1 C.2.1 hd (kk H locs ls hl hP hD hS)
theorem v_lshl (C : OK G X cc own nL ret) {x : Int64} {y : Int32} (hd : decode cc pc = .ok (.lshl, 1)) (kk : V G X cc nL R Q cells slots (pc + 1) lv (.long (x <<< (y.toInt64 &&& 63)) :: st) ws) : V G X cc nL R Q cells slots pc lv (.int y :: .long x :: st) ws := fun H locs ls hl hP hD hS => lv_lshl C.1 C.2.1 hd rfl (kk H locs ls hl hP hD hS)
theorem v_lshr (C : OK G X cc own nL ret) {x : Int64} {y : Int32} (hd : decode cc pc = .ok (.lshr, 1)) (kk : V G X cc nL R Q cells slots (pc + 1) lv (.long (x >>> (y.toInt64 &&& 63)) :: st) ws) : V G X cc nL R Q cells slots pc lv (.int y :: .long x :: st) ws := fun H locs ls hl hP hD hS => lv_lshr C.1 C.2.1 hd rfl (kk H locs ls hl hP hD hS)
theorem v_lushr (C : OK G X cc own nL ret) {x : Int64} {y : Int32} (hd : decode cc pc = .ok (.lushr, 1)) (kk : V G X cc nL R Q cells slots (pc + 1) lv (.long ((x.toUInt64 >>> (y.toInt64.toUInt64 &&& Int64.toUInt64 63)).toInt64) :: st) ws) : V G X cc nL R Q cells slots pc lv (.int y :: .long x :: st) ws := fun H locs ls hl hP hD hS => lv_lushr C.1 C.2.1 hd rfl (kk H locs ls hl hP hD hS)
theorem v_iushr (C : OK G X cc own nL ret) {x y : Int32} (hd : decode cc pc = .ok (.iushr, 1)) (kk : V G X cc nL R Q cells slots (pc + 1) lv (.int ((x.toUInt32 >>> (y.toUInt32 &&& Int32.toUInt32 31)).toInt32) :: st) ws) : V G X cc nL R Q cells slots pc lv (.int y :: .int x :: st) ws := fun H locs ls hl hP hD hS => lv_iushr C.1 C.2.1 hd rfl (kk H locs ls hl hP hD hS)
theorem v_i2l (C : OK G X cc own nL ret) {x : Int32} (hd : decode cc pc = .ok (.i2l, 1)) (kk : V G X cc nL R Q cells slots (pc + 1) lv (.long x.toInt64 :: st) ws) : V G X cc nL R Q cells slots pc lv (.int x :: st) ws := fun H locs ls hl hP hD hS => lv_i2l C.1 C.2.1 hd rfl (kk H locs ls hl hP hD hS)
theorem v_l2i (C : OK G X cc own nL ret) {x : Int64} (hd : decode cc pc = .ok (.l2i, 1)) (kk : V G X cc nL R Q cells slots (pc + 1) lv (.int x.toInt32 :: st) ws) : V G X cc nL R Q cells slots pc lv (.long x :: st) ws := fun H locs ls hl hP hD hS => lv_l2i C.1 C.2.1 hd rfl (kk H locs ls hl hP hD hS)
theorem v_lcmp (C : OK G X cc own nL ret) {x y : Int64} (hd : decode cc pc = .ok (.lcmp, 1)) (kk : V G X cc nL R Q cells slots (pc + 1) lv (.int (lg_cmp x y) :: st) ws) : V G X cc nL R Q cells slots pc lv (.long y :: .long x :: st) ws := fun H locs ls hl hP hD hS => W.lcmp C.1 C.2.1 hd (kk H locs ls hl hP hD hS)
theorem v_dup (C : OK G X cc own nL ret) {a : Value} (hd : decode cc pc = .ok (.dup, 1)) (h : a.category = 1) (kk : V G X cc nL R Q cells slots (pc + 1) lv (a :: a :: st) ws) : V G X cc nL R Q cells slots pc lv (a :: st) ws := fun H locs ls hl hP hD hS => lv_dup C.1 C.2.1 hd h (kk H locs ls hl hP hD hS)
theorem v_pop (C : OK G X cc own nL ret) {a : Value} (hd : decode cc pc = .ok (.pop, 1)) (h : a.category = 1) (kk : V G X cc nL R Q cells slots (pc + 1) lv (st) ws) : V G X cc nL R Q cells slots pc lv (a :: st) ws := fun H locs ls hl hP hD hS => lv_pop C.1 C.2.1 hd h (kk H locs ls hl hP hD hS)
theorem v_dup_x1 (C : OK G X cc own nL ret) {a b : Value} (hd : decode cc pc = .ok (.dup_x1, 1)) (h : a.category = 1) (h2 : b.category = 1) (kk : V G X cc nL R Q cells slots (pc + 1) lv (a :: b :: a :: st) ws) : V G X cc nL R Q cells slots pc lv (a :: b :: st) ws := fun H locs ls hl hP hD hS => lv_dup_x1 C.1 C.2.1 hd h h2 (kk H locs ls hl hP hD hS)
theorem v_dup2_11 (C : OK G X cc own nL ret) {a b : Value} (hd : decode cc pc = .ok (.dup2, 1)) (h : a.category = 1) (h2 : b.category = 1) (kk : V G X cc nL R Q cells slots (pc + 1) lv (a :: b :: a :: b :: st) ws) : V G X cc nL R Q cells slots pc lv (a :: b :: st) ws := fun H locs ls hl hP hD hS => lv_dup2_11 C.1 C.2.1 hd h h2 (kk H locs ls hl hP hD hS)
theorem v_dup2_2 (C : OK G X cc own nL ret) {a : Value} (hd : decode cc pc = .ok (.dup2, 1)) (h : a.category = 2) (kk : V G X cc nL R Q cells slots (pc + 1) lv (a :: a :: st) ws) : V G X cc nL R Q cells slots pc lv (a :: st) ws := fun H locs ls hl hP hD hS => lv_dup2_2 C.1 C.2.1 hd h (kk H locs ls hl hP hD hS)
theorem v_if_eq (C : OK G X cc own nL ret) {x : Int32} {off : Int} {tgt : Nat} (hd : decode cc pc = .ok (.ifCond .eq off, 3)) (ht : (pc : Int) + off = (tgt : Int)) (kt : x = 0 → V G X cc nL R Q cells slots tgt lv st ws) (kf : ¬ (x = 0) → V G X cc nL R Q cells slots (pc + 3) lv st ws) : V G X cc nL R Q cells slots pc lv (.int x :: st) ws := fun H locs ls hl hP hD hS => lv_if_eq C.1 C.2.1 hd ht (fun q => kt q H locs ls hl hP hD hS) (fun q => kf q H locs ls hl hP hD hS)
theorem v_icmp_eq (C : OK G X cc own nL ret) {x y : Int32} {off : Int} {tgt : Nat} (hd : decode cc pc = .ok (.if_icmp .eq off, 3)) (ht : (pc : Int) + off = (tgt : Int)) (kt : x = y → V G X cc nL R Q cells slots tgt lv st ws) (kf : ¬ (x = y) → V G X cc nL R Q cells slots (pc + 3) lv st ws) : V G X cc nL R Q cells slots pc lv (.int y :: .int x :: st) ws := fun H locs ls hl hP hD hS => lv_icmp_eq C.1 C.2.1 hd ht (fun q => kt q H locs ls hl hP hD hS) (fun q => kf q H locs ls hl hP hD hS)
theorem v_if_ne (C : OK G X cc own nL ret) {x : Int32} {off : Int} {tgt : Nat} (hd : decode cc pc = .ok (.ifCond .ne off, 3)) (ht : (pc : Int) + off = (tgt : Int)) (kt : ¬ x = 0 → V G X cc nL R Q cells slots tgt lv st ws) (kf : x = 0 → V G X cc nL R Q cells slots (pc + 3) lv st ws) : V G X cc nL R Q cells slots pc lv (.int x :: st) ws := fun H locs ls hl hP hD hS => lv_if_ne C.1 C.2.1 hd ht (fun q => kt q H locs ls hl hP hD hS) (fun q => kf q H locs ls hl hP hD hS)
theorem v_icmp_ne (C : OK G X cc own nL ret) {x y : Int32} {off : Int} {tgt : Nat} (hd : decode cc pc = .ok (.if_icmp .ne off, 3)) (ht : (pc : Int) + off = (tgt : Int)) (kt : ¬ x = y → V G X cc nL R Q cells slots tgt lv st ws) (kf : x = y → V G X cc nL R Q cells slots (pc + 3) lv st ws) : V G X cc nL R Q cells slots pc lv (.int y :: .int x :: st) ws := fun H locs ls hl hP hD hS => lv_icmp_ne C.1 C.2.1 hd ht (fun q => kt q H locs ls hl hP hD hS) (fun q => kf q H locs ls hl hP hD hS)
theorem v_if_lt (C : OK G X cc own nL ret) {x : Int32} {off : Int} {tgt : Nat} (hd : decode cc pc = .ok (.ifCond .lt off, 3)) (ht : (pc : Int) + off = (tgt : Int)) (kt : x < 0 → V G X cc nL R Q cells slots tgt lv st ws) (kf : ¬ (x < 0) → V G X cc nL R Q cells slots (pc + 3) lv st ws) : V G X cc nL R Q cells slots pc lv (.int x :: st) ws := fun H locs ls hl hP hD hS => lv_if_lt C.1 C.2.1 hd ht (fun q => kt q H locs ls hl hP hD hS) (fun q => kf q H locs ls hl hP hD hS)
theorem v_icmp_lt (C : OK G X cc own nL ret) {x y : Int32} {off : Int} {tgt : Nat} (hd : decode cc pc = .ok (.if_icmp .lt off, 3)) (ht : (pc : Int) + off = (tgt : Int)) (kt : x < y → V G X cc nL R Q cells slots tgt lv st ws) (kf : ¬ (x < y) → V G X cc nL R Q cells slots (pc + 3) lv st ws) : V G X cc nL R Q cells slots pc lv (.int y :: .int x :: st) ws := fun H locs ls hl hP hD hS => lv_icmp_lt C.1 C.2.1 hd ht (fun q => kt q H locs ls hl hP hD hS) (fun q => kf q H locs ls hl hP hD hS)
theorem v_if_ge (C : OK G X cc own nL ret) {x : Int32} {off : Int} {tgt : Nat} (hd : decode cc pc = .ok (.ifCond .ge off, 3)) (ht : (pc : Int) + off = (tgt : Int)) (kt : 0 ≤ x → V G X cc nL R Q cells slots tgt lv st ws) (kf : ¬ (0 ≤ x) → V G X cc nL R Q cells slots (pc + 3) lv st ws) : V G X cc nL R Q cells slots pc lv (.int x :: st) ws := fun H locs ls hl hP hD hS => lv_if_ge C.1 C.2.1 hd ht (fun q => kt q H locs ls hl hP hD hS) (fun q => kf q H locs ls hl hP hD hS)
theorem v_icmp_ge (C : OK G X cc own nL ret) {x y : Int32} {off : Int} {tgt : Nat} (hd : decode cc pc = .ok (.if_icmp .ge off, 3)) (ht : (pc : Int) + off = (tgt : Int)) (kt : y ≤ x → V G X cc nL R Q cells slots tgt lv st ws) (kf : ¬ (y ≤ x) → V G X cc nL R Q cells slots (pc + 3) lv st ws) : V G X cc nL R Q cells slots pc lv (.int y :: .int x :: st) ws := fun H locs ls hl hP hD hS => lv_icmp_ge C.1 C.2.1 hd ht (fun q => kt q H locs ls hl hP hD hS) (fun q => kf q H locs ls hl hP hD hS)
theorem v_if_gt (C : OK G X cc own nL ret) {x : Int32} {off : Int} {tgt : Nat} (hd : decode cc pc = .ok (.ifCond .gt off, 3)) (ht : (pc : Int) + off = (tgt : Int)) (kt : 0 < x → V G X cc nL R Q cells slots tgt lv st ws) (kf : ¬ (0 < x) → V G X cc nL R Q cells slots (pc + 3) lv st ws) : V G X cc nL R Q cells slots pc lv (.int x :: st) ws := fun H locs ls hl hP hD hS => lv_if_gt C.1 C.2.1 hd ht (fun q => kt q H locs ls hl hP hD hS) (fun q => kf q H locs ls hl hP hD hS)
theorem v_icmp_gt (C : OK G X cc own nL ret) {x y : Int32} {off : Int} {tgt : Nat} (hd : decode cc pc = .ok (.if_icmp .gt off, 3)) (ht : (pc : Int) + off = (tgt : Int)) (kt : y < x → V G X cc nL R Q cells slots tgt lv st ws) (kf : ¬ (y < x) → V G X cc nL R Q cells slots (pc + 3) lv st ws) : V G X cc nL R Q cells slots pc lv (.int y :: .int x :: st) ws := fun H locs ls hl hP hD hS => lv_icmp_gt C.1 C.2.1 hd ht (fun q => kt q H locs ls hl hP hD hS) (fun q => kf q H locs ls hl hP hD hS)
theorem v_if_le (C : OK G X cc own nL ret) {x : Int32} {off : Int} {tgt : Nat} (hd : decode cc pc = .ok (.ifCond .le off, 3)) (ht : (pc : Int) + off = (tgt : Int)) (kt : x ≤ 0 → V G X cc nL R Q cells slots tgt lv st ws) (kf : ¬ (x ≤ 0) → V G X cc nL R Q cells slots (pc + 3) lv st ws) : V G X cc nL R Q cells slots pc lv (.int x :: st) ws := fun H locs ls hl hP hD hS => lv_if_le C.1 C.2.1 hd ht (fun q => kt q H locs ls hl hP hD hS) (fun q => kf q H locs ls hl hP hD hS)
theorem v_icmp_le (C : OK G X cc own nL ret) {x y : Int32} {off : Int} {tgt : Nat} (hd : decode cc pc = .ok (.if_icmp .le off, 3)) (ht : (pc : Int) + off = (tgt : Int)) (kt : x ≤ y → V G X cc nL R Q cells slots tgt lv st ws) (kf : ¬ (x ≤ y) → V G X cc nL R Q cells slots (pc + 3) lv st ws) : V G X cc nL R Q cells slots pc lv (.int y :: .int x :: st) ws := fun H locs ls hl hP hD hS => lv_icmp_le C.1 C.2.1 hd ht (fun q => kt q H locs ls hl hP hD hS) (fun q => kf q H locs ls hl hP hD hS)
theorem v_goto (C : OK G X cc own nL ret) {off : Int} {tgt : Nat} (hd : decode cc pc = .ok (.goto off, 3)) (ht : (pc : Int) + off = (tgt : Int)) (kk : V G X cc nL R Q cells slots tgt lv st ws) : V G X cc nL R Q cells slots pc lv st ws := fun H locs ls hl hP hD hS => lv_goto C.1 C.2.1 hd ht (kk H locs ls hl hP hD hS)
theorem v_ifnull (C : OK G X cc own nL ret) {x : Nat} {off : Int} (hd : decode cc pc = .ok (.ifnull off, 3)) (kk : V G X cc nL R Q cells slots (pc + 3) lv st ws) : V G X cc nL R Q cells slots pc lv (.ref x :: st) ws := fun H locs ls hl hP hD hS => lv_ifnull C.1 C.2.1 hd (kk H locs ls hl hP hD hS)
theorem v_ifnullN (C : OK G X cc own nL ret) {off : Int} {tgt : Nat} (hd : decode cc pc = .ok (.ifnull off, 3)) (ht : (pc : Int) + off = (tgt : Int)) (kk : V G X cc nL R Q cells slots tgt lv st ws) : V G X cc nL R Q cells slots pc lv (.null :: st) ws := fun H locs ls hl hP hD hS => lv_ifnullN C.1 C.2.1 hd ht (kk H locs ls hl hP hD hS)
theorem v_ifnonnull (C : OK G X cc own nL ret) {x : Nat} {off : Int} {tgt : Nat} (hd : decode cc pc = .ok (.ifnonnull off, 3)) (ht : (pc : Int) + off = (tgt : Int)) (kk : V G X cc nL R Q cells slots tgt lv st ws) : V G X cc nL R Q cells slots pc lv (.ref x :: st) ws := fun H locs ls hl hP hD hS => lv_ifnonnull C.1 C.2.1 hd ht (kk H locs ls hl hP hD hS)
theorem v_ifnonnullN (C : OK G X cc own nL ret) {off : Int} (hd : decode cc pc = .ok (.ifnonnull off, 3)) (kk : V G X cc nL R Q cells slots (pc + 3) lv st ws) : V G X cc nL R Q cells slots pc lv (.null :: st) ws := fun H locs ls hl hP hD hS => lv_ifnonnullN C.1 C.2.1 hd (kk H locs ls hl hP hD hS)
theorem v_tableIn (C : OK G X cc own nL ret) {dflt lo hi : Int} {offs : Array Int} {len : Nat} {x : Int32} {off : Int} {tgt : Nat} (hd : decode cc pc = .ok (.tableswitch dflt lo hi offs, len)) (h1 : ¬ x.toInt < lo) (h2 : ¬ hi < x.toInt) (ho : offs[(x.toInt - lo).toNat]? = some off) (ht : (pc : Int) + off = (tgt : Int)) (kk : V G X cc nL R Q cells slots tgt lv st ws) : V G X cc nL R Q cells slots pc lv (.int x :: st) ws := fun H locs ls hl hP hD hS => lv_tableIn C.1 C.2.1 hd h1 h2 ho ht (kk H locs ls hl hP hD hS)
theorem v_tableOut (C : OK G X cc own nL ret) {dflt lo hi : Int} {offs : Array Int} {len : Nat} {x : Int32} {tgt : Nat} (hd : decode cc pc = .ok (.tableswitch dflt lo hi offs, len)) (h : x.toInt < lo ∨ hi < x.toInt) (ht : (pc : Int) + dflt = (tgt : Int)) (kk : V G X cc nL R Q cells slots tgt lv st ws) : V G X cc nL R Q cells slots pc lv (.int x :: st) ws := fun H locs ls hl hP hD hS => lv_tableOut C.1 C.2.1 hd h ht (kk H locs ls hl hP hD hS)
theorem v_lookup (C : OK G X cc own nL ret) {dflt : Int} {ps : Array (Int × Int)} {len : Nat} {x : Int32} {off : Int} {tgt : Nat} (hd : decode cc pc = .ok (.lookupswitch dflt ps, len)) (hp : (ps.toList.zip (ps.toList.drop 1)).all (fun (a, next) => a.1 < next.1) = true) (ho : Op.lookupswitch.offset ps.toList dflt x.toInt = off) (ht : (pc : Int) + off = (tgt : Int)) (kk : V G X cc nL R Q cells slots tgt lv st ws) : V G X cc nL R Q cells slots pc lv (.int x :: st) ws := fun H locs ls hl hP hD hS => lv_lookup C.1 C.2.1 hd hp ho ht (kk H locs ls hl hP hD hS)
theorem v_get (C : OK G X cc own nL ret) {a : Nat} {Cn : String} {T : u_T} {N ci index : Nat} (hin : ∀ w ∈ u_ws Cn T N, w ∈ W0) (q0 : Nat) {fs : List Value} {v : Value} (he : ws[q0]? = some (a, .inr (ci, fs))) (hc : vwCl[ci]? = some (Cn, T, N)) (k : Nat) (hk : k < N) (hl : Cond.fieldLink own index (T k).1 (T k).2.1 (T k).2.2.1 ∈ W0) (hv : fs[k]? = some v) (hd : decode cc pc = .ok (.getfield index, 3)) (kk : V G X cc nL R Q cells slots (pc + 3) lv (v :: st) ws) : V G X cc nL R Q cells slots pc lv (.ref a :: st) ws := fun H locs ls hl2 hP hD hS => va_get C.1 C.2.1 C.2.2.1 hin C.2.2.2.2.1 C.2.2.2.1.1 hP q0 he hc k hk (C.2.2.1 _ hl) (fun _ h9 => h9) hv hd (kk H locs ls hl2 hP hD hS)
theorem v_getN (C : OK G X cc own nL ret) {a : Nat} {Cn host : String} {T : u_T} {N ci index : Nat} (hin : ∀ w ∈ u_ws Cn T N, w ∈ W0) (q0 : Nat) {fs : List Value} {v : Value} (he : ws[q0]? = some (a, .inr (ci, fs))) (hc : vwCl[ci]? = some (Cn, T, N)) (k : Nat) (hk : k < N) (hl : Cond.fieldLinkNest own index (T k).1 (T k).2.1 (T k).2.2.1 host ∈ nestL) (hv : fs[k]? = some v) (hd : decode cc pc = .ok (.getfield index, 3)) (kk : V G X cc nL R Q cells slots (pc + 3) lv (v :: st) ws) : V G X cc nL R Q cells slots pc lv (.ref a :: st) ws := fun H locs ls hl2 hP hD hS => va_getN C.1 C.2.1 C.2.2.1 hin C.2.2.2.2.1 C.2.2.2.1.1 hP q0 he hc k hk (va_Nw.use rfl (C.2.2.2.1.2.1 _ hl)) (fun _ h9 => h9) hv hd (kk H locs ls hl2 hP hD hS)
theorem v_put (C : OK G X cc own nL ret) {a : Nat} {Cn : String} {T : u_T} {N ci index : Nat} (hin : ∀ w ∈ u_ws Cn T N, w ∈ W0) (ty0 : Nat → FieldType) (hty : ∀ k, k < N → parseFieldDescriptor (T k).2.2.1 = some (ty0 k)) (hnm : ∀ a, a < N → ∀ b, b < N → a ≠ b → (T a).2.1 ≠ (T b).2.1) (q0 : Nat) {fs : List Value} {v : Value} (he : ws[q0]? = some (a, .inr (ci, fs))) (hc : vwCl[ci]? = some (Cn, T, N)) (k : Nat) (hk : k < N) (hl : Cond.fieldLink own index (T k).1 (T k).2.1 (T k).2.2.1 ∈ W0) (hfin : (T k).2.2.2 = false) (hn : narrow (ty0 k) v = v) (hfit : fits (ty0 k) v = true) (hlen : k < fs.length) (hd : decode cc pc = .ok (.putfield index, 3)) {ws' : va_W} (hws : ws.set q0 (a, .inr (ci, fs.set k v)) = ws') (kk : V G X cc nL R Q cells slots (pc + 3) lv st ws') : V G X cc nL R Q cells slots pc lv (v :: .ref a :: st) ws := by
  subst hws
  exact fun H locs ls hl2 hP hD hS => va_put C.1 C.2.1 C.2.2.1 hin ty0 hty hnm C.2.2.2.2.1 C.2.2.2.1.1 hP hD hS q0 he hc k hk (C.2.2.1 _ hl) (fun _ h9 => h9) hfin (hty k hk) hn hfit hlen hd (fun H1 locs1 hP1 hD1 hS1 => kk H1 locs1 ls hl2 hP1 hD1 hS1)
theorem v_putN (C : OK G X cc own nL ret) {a : Nat} {Cn host : String} {T : u_T} {N ci index : Nat} (hin : ∀ w ∈ u_ws Cn T N, w ∈ W0) (ty0 : Nat → FieldType) (hty : ∀ k, k < N → parseFieldDescriptor (T k).2.2.1 = some (ty0 k)) (hnm : ∀ a, a < N → ∀ b, b < N → a ≠ b → (T a).2.1 ≠ (T b).2.1) (q0 : Nat) {fs : List Value} {v : Value} (he : ws[q0]? = some (a, .inr (ci, fs))) (hc : vwCl[ci]? = some (Cn, T, N)) (k : Nat) (hk : k < N) (hl : Cond.fieldLinkNest own index (T k).1 (T k).2.1 (T k).2.2.1 host ∈ nestL) (hfin : (T k).2.2.2 = false) (hn : narrow (ty0 k) v = v) (hfit : fits (ty0 k) v = true) (hlen : k < fs.length) (hd : decode cc pc = .ok (.putfield index, 3)) {ws' : va_W} (hws : ws.set q0 (a, .inr (ci, fs.set k v)) = ws') (kk : V G X cc nL R Q cells slots (pc + 3) lv st ws') : V G X cc nL R Q cells slots pc lv (v :: .ref a :: st) ws := by
  subst hws
  exact fun H locs ls hl2 hP hD hS => va_putN C.1 C.2.1 C.2.2.1 hin ty0 hty hnm C.2.2.2.2.1 C.2.2.2.1.1 hP hD hS q0 he hc k hk (va_Nw.use rfl (C.2.2.2.1.2.1 _ hl)) (fun _ h9 => h9) hfin (hty k hk) hn hfit hlen hd (fun H1 locs1 hP1 hD1 hS1 => kk H1 locs1 ls hl2 hP1 hD1 hS1)
theorem v_putF (C : OK G X cc own nL ret) {a : Nat} {Cn : String} {T : u_T} {N ci index : Nat} (hin : ∀ w ∈ u_ws Cn T N, w ∈ W0) (ty0 : Nat → FieldType) (hty : ∀ k, k < N → parseFieldDescriptor (T k).2.2.1 = some (ty0 k)) (hnm : ∀ a, a < N → ∀ b, b < N → a ≠ b → (T a).2.1 ≠ (T b).2.1) (q0 : Nat) {fs : List Value} {v : Value} (he : ws[q0]? = some (a, .inr (ci, fs))) (hc : vwCl[ci]? = some (Cn, T, N)) (k : Nat) (hk : k < N) (hl : Cond.fieldLink own index (T k).1 (T k).2.1 (T k).2.2.1 ∈ W0) (hfin : (T k).2.2.2 = true) (hin2 : (xt X).name = "<init>") (hdecl : (T k).1 = own) (hn : narrow (ty0 k) v = v) (hfit : fits (ty0 k) v = true) (hlen : k < fs.length) (hd : decode cc pc = .ok (.putfield index, 3)) {ws' : va_W} (hws : ws.set q0 (a, .inr (ci, fs.set k v)) = ws') (kk : V G X cc nL R Q cells slots (pc + 3) lv st ws') : V G X cc nL R Q cells slots pc lv (v :: .ref a :: st) ws := by
  subst hws
  exact fun H locs ls hl2 hP hD hS => va_putF C.1 C.2.1 C.2.2.1 hin ty0 hty hnm C.2.2.2.2.1 C.2.2.2.1.1 hP hD hS q0 he hc k hk (C.2.2.1 _ hl) (fun _ h9 => h9) hfin hin2 hdecl (hty k hk) hn hfit hlen hd (fun H1 locs1 hP1 hD1 hS1 => kk H1 locs1 ls hl2 hP1 hD1 hS1)
theorem v_iald (C : OK G X cc own nL ret) {a : Nat} (q0 : Nat) {n : Nat} {f : Nat → Int32} (ha : ws[q0]? = some (a, .inl (gy G 0, n, .inl f))) {i : Int32} (hin : vp_in i n) (hd : decode cc pc = .ok (.iaload, 1)) (kk : V G X cc nL R Q cells slots (pc + 1) lv (.int (f i.toNatClampNeg) :: st) ws) : V G X cc nL R Q cells slots pc lv (.int i :: .ref a :: st) ws := fun H locs ls hl hP hD hS => va_iald C.1 C.2.1 C.2.2.2.1.1 hP q0 0 ha rfl hin hd (kk H locs ls hl hP hD hS)
theorem v_ialdN (C : OK G X cc own nL ret) {a : Nat} (q0 : Nat) {n : Nat} {f : Nat → Int32} (ha : ws[q0]? = some (a, .inl (gy G 0, n, .inl f))) {i : Nat} (hin : i < n) (hn : n < 2 ^ 31) (hd : decode cc pc = .ok (.iaload, 1)) (kk : V G X cc nL R Q cells slots (pc + 1) lv (.int (f i) :: st) ws) : V G X cc nL R Q cells slots pc lv (.int (nI i) :: .ref a :: st) ws := v_iald C q0 ha (vp_in_nI hin hn) hd (by rw [nI_clamp (Nat.lt_trans hin hn)]; exact kk)
theorem v_zald (C : OK G X cc own nL ret) {a : Nat} (q0 : Nat) {n : Nat} {f : Nat → Int32} (ha : ws[q0]? = some (a, .inl (gy G 2, n, .inl f))) {i : Int32} (hin : vp_in i n) (hd : decode cc pc = .ok (.baload, 1)) (kk : V G X cc nL R Q cells slots (pc + 1) lv (.int (f i.toNatClampNeg) :: st) ws) : V G X cc nL R Q cells slots pc lv (.int i :: .ref a :: st) ws := fun H locs ls hl hP hD hS => va_zald C.1 C.2.1 C.2.2.2.1.1 hP q0 2 ha rfl hin hd (kk H locs ls hl hP hD hS)
theorem v_zaldN (C : OK G X cc own nL ret) {a : Nat} (q0 : Nat) {n : Nat} {f : Nat → Int32} (ha : ws[q0]? = some (a, .inl (gy G 2, n, .inl f))) {i : Nat} (hin : i < n) (hn : n < 2 ^ 31) (hd : decode cc pc = .ok (.baload, 1)) (kk : V G X cc nL R Q cells slots (pc + 1) lv (.int (f i) :: st) ws) : V G X cc nL R Q cells slots pc lv (.int (nI i) :: .ref a :: st) ws := v_zald C q0 ha (vp_in_nI hin hn) hd (by rw [nI_clamp (Nat.lt_trans hin hn)]; exact kk)
theorem v_lald (C : OK G X cc own nL ret) {a : Nat} (q0 : Nat) {n : Nat} {f : Nat → Int64} (ha : ws[q0]? = some (a, .inl (gy G 1, n, .inr (.inl f)))) {i : Int32} (hin : vp_in i n) (hd : decode cc pc = .ok (.laload, 1)) (kk : V G X cc nL R Q cells slots (pc + 1) lv (.long (f i.toNatClampNeg) :: st) ws) : V G X cc nL R Q cells slots pc lv (.int i :: .ref a :: st) ws := fun H locs ls hl hP hD hS => va_lald C.1 C.2.1 C.2.2.2.1.1 hP q0 1 ha rfl hin hd (kk H locs ls hl hP hD hS)
theorem v_laldN (C : OK G X cc own nL ret) {a : Nat} (q0 : Nat) {n : Nat} {f : Nat → Int64} (ha : ws[q0]? = some (a, .inl (gy G 1, n, .inr (.inl f)))) {i : Nat} (hin : i < n) (hn : n < 2 ^ 31) (hd : decode cc pc = .ok (.laload, 1)) (kk : V G X cc nL R Q cells slots (pc + 1) lv (.long (f i) :: st) ws) : V G X cc nL R Q cells slots pc lv (.int (nI i) :: .ref a :: st) ws := v_lald C q0 ha (vp_in_nI hin hn) hd (by rw [nI_clamp (Nat.lt_trans hin hn)]; exact kk)
theorem v_iast (C : OK G X cc own nL ret) {a : Nat} (q0 : Nat) {n : Nat} {f : Nat → Int32} (ha : ws[q0]? = some (a, .inl (gy G 0, n, .inl f))) {i : Int32} {x : Int32} (hin : vp_in i n) (hd : decode cc pc = .ok (.iastore, 1)) {ws' : va_W} (hws : ws.set q0 (a, .inl (gy G 0, n, .inl (upd f i.toNatClampNeg x))) = ws') (kk : V G X cc nL R Q cells slots (pc + 1) lv st ws') : V G X cc nL R Q cells slots pc lv (.int x :: .int i :: .ref a :: st) ws := by
  subst hws
  exact fun H locs ls hl hP hD hS => va_iast C.1 C.2.1 C.2.2.2.1.1 hP hD hS q0 0 ha rfl hin hd (fun H1 locs1 hP1 hD1 hS1 => kk H1 locs1 ls hl hP1 hD1 hS1)
theorem v_iastN (C : OK G X cc own nL ret) {a : Nat} (q0 : Nat) {n : Nat} {f : Nat → Int32} (ha : ws[q0]? = some (a, .inl (gy G 0, n, .inl f))) {i : Nat} {x : Int32} (hin : i < n) (hn : n < 2 ^ 31) (hd : decode cc pc = .ok (.iastore, 1)) {ws' : va_W} (hws : ws.set q0 (a, .inl (gy G 0, n, .inl (upd f i x))) = ws') (kk : V G X cc nL R Q cells slots (pc + 1) lv st ws') : V G X cc nL R Q cells slots pc lv (.int x :: .int (nI i) :: .ref a :: st) ws := v_iast C q0 ha (vp_in_nI hin hn) hd (by rw [nI_clamp (Nat.lt_trans hin hn)]; exact hws) kk
theorem v_zast (C : OK G X cc own nL ret) {a : Nat} (q0 : Nat) {n : Nat} {f : Nat → Int32} (ha : ws[q0]? = some (a, .inl (gy G 2, n, .inl f))) {i : Int32} {x : Int32} (hin : vp_in i n) (hd : decode cc pc = .ok (.bastore, 1)) {ws' : va_W} (hws : ws.set q0 (a, .inl (gy G 2, n, .inl (upd f i.toNatClampNeg (vp_nar .boolean x)))) = ws') (kk : V G X cc nL R Q cells slots (pc + 1) lv st ws') : V G X cc nL R Q cells slots pc lv (.int x :: .int i :: .ref a :: st) ws := by
  subst hws
  exact fun H locs ls hl hP hD hS => va_zast C.1 C.2.1 C.2.2.2.1.1 hP hD hS q0 2 ha rfl hin hd (fun H1 locs1 hP1 hD1 hS1 => kk H1 locs1 ls hl hP1 hD1 hS1)
theorem v_zastN (C : OK G X cc own nL ret) {a : Nat} (q0 : Nat) {n : Nat} {f : Nat → Int32} (ha : ws[q0]? = some (a, .inl (gy G 2, n, .inl f))) {i : Nat} {x : Int32} (hin : i < n) (hn : n < 2 ^ 31) (hd : decode cc pc = .ok (.bastore, 1)) {ws' : va_W} (hws : ws.set q0 (a, .inl (gy G 2, n, .inl (upd f i (vp_nar .boolean x)))) = ws') (kk : V G X cc nL R Q cells slots (pc + 1) lv st ws') : V G X cc nL R Q cells slots pc lv (.int x :: .int (nI i) :: .ref a :: st) ws := v_zast C q0 ha (vp_in_nI hin hn) hd (by rw [nI_clamp (Nat.lt_trans hin hn)]; exact hws) kk
theorem v_last (C : OK G X cc own nL ret) {a : Nat} (q0 : Nat) {n : Nat} {f : Nat → Int64} (ha : ws[q0]? = some (a, .inl (gy G 1, n, .inr (.inl f)))) {i : Int32} {x : Int64} (hin : vp_in i n) (hd : decode cc pc = .ok (.lastore, 1)) {ws' : va_W} (hws : ws.set q0 (a, .inl (gy G 1, n, .inr (.inl (vp_updL f i.toNatClampNeg x)))) = ws') (kk : V G X cc nL R Q cells slots (pc + 1) lv st ws') : V G X cc nL R Q cells slots pc lv (.long x :: .int i :: .ref a :: st) ws := by
  subst hws
  exact fun H locs ls hl hP hD hS => va_last C.1 C.2.1 C.2.2.2.1.1 hP hD hS q0 1 ha rfl hin hd (fun H1 locs1 hP1 hD1 hS1 => kk H1 locs1 ls hl hP1 hD1 hS1)
theorem v_lastN (C : OK G X cc own nL ret) {a : Nat} (q0 : Nat) {n : Nat} {f : Nat → Int64} (ha : ws[q0]? = some (a, .inl (gy G 1, n, .inr (.inl f)))) {i : Nat} {x : Int64} (hin : i < n) (hn : n < 2 ^ 31) (hd : decode cc pc = .ok (.lastore, 1)) {ws' : va_W} (hws : ws.set q0 (a, .inl (gy G 1, n, .inr (.inl (vp_updL f i x)))) = ws') (kk : V G X cc nL R Q cells slots (pc + 1) lv st ws') : V G X cc nL R Q cells slots pc lv (.long x :: .int (nI i) :: .ref a :: st) ws := v_last C q0 ha (vp_in_nI hin hn) hd (by rw [nI_clamp (Nat.lt_trans hin hn)]; exact hws) kk
theorem v_aald (C : OK G X cc own nL ret) {a : Nat} (q0 t0 : Nat) {cA : ClassId} {Cn : String} {n : Nat} {f : Nat → Option Nat} (ha : ws[q0]? = some (a, .inl (cA, n, .inr (.inr (.inr (.inr f)))))) (ht : (tysOf (gy G))[t0]? = some (cA, .object Cn)) {i : Nat} (hin : i < n) (hn : n < 2 ^ 31) (hd : decode cc pc = .ok (.aaload, 1)) (kk : V G X cc nL R Q cells slots (pc + 1) lv (va_rf (f i) :: st) ws) : V G X cc nL R Q cells slots pc lv (.int (nI i) :: .ref a :: st) ws := fun H locs ls hl hP hD hS => va_aldq C.1 C.2.1 C.2.2.2.1.1 hP q0 t0 ha ht (vp_in_nI hin hn) hd (by rw [nI_clamp (Nat.lt_trans hin hn)]; exact (kk H locs ls hl hP hD hS))
theorem v_aast (C : OK G X cc own nL ret) {a : Nat} (q0 t0 qk ci : Nat) {cA : ClassId} {r : vw_C} {n v : Nat} {vs : List Value} {f : Nat → Option Nat} (ha : ws[q0]? = some (a, .inl (cA, n, .inr (.inr (.inr (.inr f)))))) (ht : (tysOf (gy G))[t0]? = some (cA, .object r.1)) (hv : ws[qk]? = some (v, .inr (ci, vs))) (hc : vwCl[ci]? = some r) {i : Nat} (hin : i < n) (hn : n < 2 ^ 31) (hd : decode cc pc = .ok (.aastore, 1)) {ws' : va_W} (hws : ws.set q0 (a, .inl (cA, n, .inr (.inr (.inr (.inr (va_up f i (some v))))))) = ws') (kk : V G X cc nL R Q cells slots (pc + 1) lv st ws') : V G X cc nL R Q cells slots pc lv (.ref v :: .int (nI i) :: .ref a :: st) ws := by
  subst hws
  have e : (nI i).toNatClampNeg = i := nI_clamp (Nat.lt_trans hin hn)
  intro H locs ls hl hP hD hS
  refine va_astq C.1 C.2.1 C.2.2.2.1.1 hP hD hS q0 t0 qk ci ha ht hv hc (vp_in_nI hin hn) hd (fun H1 locs1 hP1 hD1 hS1 => ?_)
  rw [e] at hP1 hD1
  exact kk H1 locs1 ls hl hP1 hD1 hS1
theorem v_alen (C : OK G X cc own nL ret) {a : Nat} (q0 t0 : Nat) {cA : ClassId} {x : vp_A} (ha : ws[q0]? = some (a, .inl (cA, x))) {ty : FieldType} (ht : (tysOf (gy G))[t0]? = some (cA, ty)) (hd : decode cc pc = .ok (.arraylength, 1)) (kk : V G X cc nL R Q cells slots (pc + 1) lv (.int (nI x.1) :: st) ws) : V G X cc nL R Q cells slots pc lv (.ref a :: st) ws := fun H locs ls hl hP hD hS => va_alen C.1 C.2.1 C.2.2.2.1.1 hP q0 t0 ha ht rfl hd (kk H locs ls hl hP hD hS)
theorem v_newa (C : OK G X cc own nL ret) {atype : ArrayType} {ty : FieldType} {t0 : Nat} (hty : newarray.typeOf atype = ty) (k : Cond.arrayClass ty ∈ W0) (ht : (tysOf (gy G))[t0]? = some (gy G t0, ty)) (hpr : ∀ C, ty ≠ .object C) {n : Int32} {N' : Nat} {a0 : vp_A} (ha : ∀ cA : ClassId, vp_cell cA a0 = arrV cA N' (fun _ => defaultValue ty)) (hn : ¬ n < 0) (hN : n.toNatClampNeg = N') (hby : N' * componentBytes ty ≤ 536870912) (hcs : cells + 1 ≤ R.cells) (hss : slots + N' ≤ R.slots) (hd : decode cc pc = .ok (.newarray atype, 2))
    (kk : ∀ q : Nat, V G X cc nL R Q (cells + 1) (slots + N') (pc + 2) lv (.ref q :: st) (ws ++ [(q, .inl (gy G t0, a0))])) : V G X cc nL R Q cells slots pc lv (.int n :: st) ws := by
  intro H locs ls hl hP hD hS
  refine va_newa C.1 C.2.1 (by rw [hty]; exact C.2.2.1 _ k) hty C.2.2.2.1.1 hP hD hS C.2.2.2.2.2.2.2.1 ha hn hN hby hcs hss hd (fun q cA H1 hK1 hP1 hD1 hS1 => ?_)
  have e1 := (C.2.2.2.1.1.2 t0 _ ht).2
  have e2 := (hK1.2 (tysOf (gy G)).length (cA, ty) (by rw [List.getElem?_append_right (Nat.le_refl _), Nat.sub_self]; rfl)).2
  have e3 : cA = gy G t0 := by
    cases ty with
    | object Cn => exact absurd rfl (hpr Cn)
    | _ => exact Option.some.inj (e2.symm.trans e1)
  subst e3
  exact kk q H1 locs ls hl hP1 hD1 hS1
theorem v_newq (C : OK G X cc own nL ret) {Cn : String} {index t0 : Nat} (k : Cond.classLink own index Cn ∈ W0) (hao : va_AO Cn (xs X)) (ht : (tysOf (gy G))[t0]? = some (gy G t0, .object Cn)) {n : Int32} {N' : Nat} (hn : ¬ n < 0) (hN : n.toNatClampNeg = N') (hby : N' * 4 ≤ 536870912) (hcs : cells + 1 ≤ R.cells) (hss : slots + N' ≤ R.slots) (hd : decode cc pc = .ok (.anewarray index, 3))
    (kk : ∀ q : Nat, V G X cc nL R Q (cells + 1) (slots + N') (pc + 3) lv (.ref q :: st) (ws ++ [(q, .inl (gy G t0, N', .inr (.inr (.inr (.inr (fun _ => none))))))])) : V G X cc nL R Q cells slots pc lv (.int n :: st) ws := by
  intro H locs ls hl hP hD hS
  refine va_newq C.1 C.2.1 C.2.2.2.2.1 (C.2.2.1 _ k) hao C.2.2.2.1.1 hP hD hS C.2.2.2.2.2.2.2.1 hn hN hby hcs hss hd (fun q cA H1 hK1 hP1 hD1 hS1 => ?_)
  obtain ⟨kA, comp, -, -, -, e1⟩ := (C.2.2.2.1.1.2 t0 _ ht).2
  obtain ⟨kA2, comp2, -, -, -, e2⟩ := (hK1.2 (tysOf (gy G)).length (cA, .object Cn) (by rw [List.getElem?_append_right (Nat.le_refl _), Nat.sub_self]; rfl)).2
  have e3 : cA = gy G t0 := Option.some.inj (e2.symm.trans e1)
  subst e3
  exact kk q H1 locs ls hl hP1 hD1 hS1
theorem v_new (C : OK G X cc own nL ret) {Cn : String} {T : u_T} {N ci index : Nat} (hin : ∀ w ∈ u_ws Cn T N, w ∈ W0) (ty : Nat → FieldType) (hty : ∀ k, k < N → parseFieldDescriptor (T k).2.2.1 = some (ty k)) (k1 : Cond.classLink own index Cn ∈ W0) (k2 : Cond.instantiable Cn N ∈ W0) (k3 : Cond.initialized Cn ∈ W0) (hc : vwCl[ci]? = some (Cn, T, N)) {fs : List Value} (hfs : ∀ j, j < N → defaultValue (ty j) = vp_V fs j) (hcs : cells + 1 ≤ R.cells) (hss : slots + N ≤ R.slots) (hd : decode cc pc = .ok (.new index, 3))
    (kk : ∀ q : Nat, V G X cc nL R Q (cells + 1) (slots + N) (pc + 3) lv (.ref q :: st) (ws ++ [(q, .inr (ci, fs))])) : V G X cc nL R Q cells slots pc lv st ws :=
  fun H locs ls hl hP hD hS => va_new C.1 C.2.1 C.2.2.1 hin ty hty C.2.2.2.2.1 (C.2.2.1 _ k1) (C.2.2.1 _ k2) (C.2.2.1 _ k3) C.2.2.2.1.1 hP hD hS C.2.2.2.2.2.2.2.1 hc hfs hcs hss hd (fun q H1 hP1 hD1 hS1 => kk q H1 locs ls hl hP1 hD1 hS1)
theorem v_objInit (C : OK G X cc own nL ret) {a idx : Nat} (k1 : Cond.methodLink own idx objectInit ∈ W0) (k2 : Cond.instanceMethod objectInit ∈ W0) (k3 : Cond.code objectInit ⟨#[0xb1]⟩ 1 none ∈ W0) (hd : decode cc pc = .ok (.invokespecial idx, 3)) (hf : 1 ≤ R.frames) (hlo : (st.map fun v => v.category).sum + 12 ≤ R.locals) (kk : V G X cc nL R Q cells slots (pc + 3) lv st ws) : V G X cc nL R Q cells slots pc lv (.ref a :: st) ws :=
  fun H locs ls hl hP hD hS => W.objInit C.1 C.2.1 C.2.2.2.2.1 (C.2.2.1 _ k1) (C.2.2.1 _ k2) (C.2.2.1 _ k3) rfl (by rw [C.2.2.2.2.2.1]; exact hl.1) rfl hd hf (by show 2 * 0 + _ + 12 ≤ _; omega) (kk H locs ls hl hP hD hS)
theorem v_mmax (C : OK G X cc own nL ret) {idx : Nat} (k1 : Cond.methodLink own idx Lib.Math.max.name ∈ W0) (k2 : Cond.static Lib.Math.max.name ∈ W0) (k3 : Cond.initialized "java/lang/Math" ∈ W0) (k4 : Cond.code Lib.Math.max.name Lib.Math.max.code 2 (some .int) ∈ W0) (hf : 1 ≤ R.frames) (hlo : (st.map fun v => v.category).sum + 13 ≤ R.locals) (hcs : cells ≤ R.cells) (hss : slots ≤ R.slots) {x y : Int32} (hd : decode cc pc = .ok (.invokestatic idx, 3)) (kk : V G X cc nL R Q cells slots (pc + 3) lv (.int (if x < y then y else x) :: st) ws) : V G X cc nL R Q cells slots pc lv (.int y :: .int x :: st) ws :=
  fun H locs ls hl hP hD hS => va_mmax C.1 C.2.1 (by rw [C.2.2.2.2.2.1]; exact hl.1.symm) C.2.2.2.2.1 (C.2.2.1 _ k1) (C.2.2.1 _ k2) (C.2.2.1 _ k3) (C.2.2.1 _ k4) hf hlo hcs hss hd (kk H locs ls hl hP hD hS)
theorem v_mmin (C : OK G X cc own nL ret) {idx : Nat} (k1 : Cond.methodLink own idx Lib.Math.min.name ∈ W0) (k2 : Cond.static Lib.Math.min.name ∈ W0) (k3 : Cond.initialized "java/lang/Math" ∈ W0) (k4 : Cond.code Lib.Math.min.name Lib.Math.min.code 2 (some .int) ∈ W0) (hf : 1 ≤ R.frames) (hlo : (st.map fun v => v.category).sum + 13 ≤ R.locals) (hcs : cells ≤ R.cells) (hss : slots ≤ R.slots) {x y : Int32} (hd : decode cc pc = .ok (.invokestatic idx, 3)) (kk : V G X cc nL R Q cells slots (pc + 3) lv (.int (if y < x then y else x) :: st) ws) : V G X cc nL R Q cells slots pc lv (.int y :: .int x :: st) ws :=
  fun H locs ls hl hP hD hS => va_mmin C.1 C.2.1 (by rw [C.2.2.2.2.2.1]; exact hl.1.symm) C.2.2.2.2.1 (C.2.2.1 _ k1) (C.2.2.1 _ k2) (C.2.2.1 _ k3) (C.2.2.1 _ k4) hf hlo hcs hss hd (kk H locs ls hl hP hD hS)
theorem v_iret {ty : FieldType} (C : OK G X cc own nL (some ty)) {S : Type} {w : S → va_W} {f : Int32 → S → Prop} {mc ms : Nat} {v : Int32} (hd : decode cc pc = .ok (.ireturn, 1)) (hn : narrow ty (.int v) = .int v) (u : S) (hw : ws = w u) (hq : f v u) : V G X cc nL R (QX G X w (Ri f) mc ms) mc ms pc lv [.int v] ws := by
  subst hw
  exact fun H locs ls hl hP hD hS => W.zret C.1 C.2.1 C.2.2.2.2.2.2.2.2 hn (fun t ht hW => ⟨⟨_, u, rfl, ⟨v, rfl, hq⟩, by rw [ht]; exact hP, hD⟩, hS.F ht⟩) hS.2.2 hd C.2.2.2.2.2.2.1
theorem v_lret (C : OK G X cc own nL (some .long)) {S : Type} {w : S → va_W} {f : Int64 → S → Prop} {mc ms : Nat} {v : Int64} (hd : decode cc pc = .ok (.lreturn, 1)) (u : S) (hw : ws = w u) (hq : f v u) : V G X cc nL R (QX G X w (Rl f) mc ms) mc ms pc lv [.long v] ws := by
  subst hw
  exact fun H locs ls hl hP hD hS => W.lret C.1 C.2.1 C.2.2.2.2.2.2.2.2 (fun t ht hW => ⟨⟨_, u, rfl, ⟨v, rfl, hq⟩, by rw [ht]; exact hP, hD⟩, hS.F ht⟩) hS.2.2 hd C.2.2.2.2.2.2.1
theorem v_vret (C : OK G X cc own nL none) {S : Type} {w : S → va_W} {f : S → Prop} {mc ms : Nat} (hd : decode cc pc = .ok (.return_, 1)) (u : S) (hw : ws = w u) (hq : f u) : V G X cc nL R (QX G X w (Rv f) mc ms) mc ms pc lv [] ws := by
  subst hw
  exact fun H locs ls hl hP hD hS => W.vret C.1 C.2.1 C.2.2.2.2.2.2.2.2 (fun t ht hW => ⟨⟨_, u, rfl, ⟨rfl, hq⟩, by rw [ht]; exact hP, hD⟩, hS.F ht⟩) hS.2.2 hd C.2.2.2.2.2.2.1
theorem v_aret {n : String} (C : OK G X cc own nL (some (.object n))) {S : Type} {w : S → va_W} {f : Option Nat → S → Prop} {mc ms : Nat} {r : Option Nat} (hd : decode cc pc = .ok (.areturn, 1)) (u : S) (hw : ws = w u) (hq : f r u) : V G X cc nL R (QX G X w (Rq f) mc ms) mc ms pc lv [va_rf r] ws := by
  subst hw
  exact fun H locs ls hl hP hD hS => W.aret C.1 C.2.1 C.2.2.2.2.2.2.2.2 (Or.inl ⟨n, rfl⟩) (va_rf_or r) (fun t ht hW => ⟨⟨_, u, rfl, ⟨r, rfl, hq⟩, by rw [ht]; exact hP, hD⟩, hS.F ht⟩) hS.2.2 hd C.2.2.2.2.2.2.1
/-- a callee: its words, and how many arguments -/
def CY (y : MethodName) (ccy : ByteArray) (nLy : Nat) (rety : Option FieldType) (n : Nat) : Prop := Cond.initialized y.cls ∈ W0 ∧ Cond.code y ccy nLy rety ∈ W0 ∧ y.cls ≠ "java/lang/invoke/MethodHandle" ∧ y.cls ≠ "java/lang/invoke/VarHandle" ∧ (parseMethodDescriptor y.desc).map (fun d => d.parameters.length) = some n
def CV (y : MethodName) : Prop := Cond.instanceMethod y ∈ W0 ∧ Cond.selects y.cls y y ∈ W0
theorem CT.blind {av : List Value} {sz : Nat} {ws : va_W} : FrameBlind (va_Pc av (fun U => U.heap.size = sz ∧ va_P (gD G) vwCl ws U.heap ∧ KK G U ∧ va_D (fun _ => True) ws)) :=
  fun a U g mk q => by obtain ⟨q0, q1, qP, qK, qD⟩ := q; exact ⟨q0, q1, qP, qK.calling, qD⟩
theorem W0_callee {y : MethodName} {ccy : ByteArray} {nLy : Nat} {rety : Option FieldType} (h : Cond.code y ccy nLy rety ∈ W0) : GoodIn W0 (.code y ccy nLy rety :: W0) := by
  intro w hw
  have hm : w ∈ W0 := (List.mem_cons.mp hw).elim (fun e => e ▸ h) id
  exact ⟨hm, good_of_word (W0_gd hm)⟩
/-- behind a call: the callee's world wc at the end of the caller's -/
theorem joinE {A0 : Nat → Prop} {D : va_G} {cl : List vw_C} {wr wc w1 : va_W} {H H1 : Heap} (hP : va_P D cl (wr ++ wc) H) (hD : va_D A0 (wr ++ wc)) (hk : ∀ q : Nat, q < H.size → ¬ va_A wc H.size q → H1[q]? = H[q]?) (hF : ∀ q, va_A wc H.size q → A0 q) (hP1 : va_P D cl w1 H1) (hD1 : va_D (va_A wc H.size) w1) : va_P D cl (wr ++ w1) H1 ∧ va_D A0 (wr ++ w1) := by
  have hR : ∀ (k : Nat) (q : Nat × va_E), wr[k]? = some q → (wr ++ wc)[k]? = some q := fun k q h => by rw [List.getElem?_append_left (List.getElem?_eq_some_iff.mp h).1]; exact h
  have hC : ∀ (k : Nat) (q : Nat × va_E), wc[k]? = some q → (wr ++ wc)[wr.length + k]? = some q := fun k q h => by rw [List.getElem?_append_right (by omega), Nat.add_sub_cancel_left]; exact h
  have apart : ∀ (k : Nat) (q : Nat × va_E), wr[k]? = some q → q.1 < H.size ∧ ¬ va_A wc H.size q.1 := by
    intro k q hq
    refine ⟨(hP k q (hR k q hq)).lt, fun h => ?_⟩
    rcases h with ⟨k2, e, h⟩ | h
    · have := hD.1 _ _ q (q.1, e) (hR k q hq) (hC k2 _ h) rfl
      have := (List.getElem?_eq_some_iff.mp hq).1
      omega
    · have := (hP k q (hR k q hq)).lt
      omega
  have hDr : va_D A0 wr := ⟨fun i j x y hi hj hxy => hD.1 i j x y (hR i x hi) (hR j y hj) hxy, fun k q hk => hD.2 k q (hR k q hk)⟩
  refine ⟨va_P.app (fun k q hq => ?_) hP1, va_D.app hDr (hD1.weaken (fun k q _ h => hF q.1 h)) (fun i j x y hx hy hxy => ?_)⟩
  · obtain ⟨g1, g2⟩ := apart k q hq
    exact (hP k q (hR k q hq)).kept (hk q.1 g1 g2)
  · exact (apart i x hx).2 (by rw [hxy]; exact hD1.2 j y hy)
theorem freeE {A0 : Nat → Prop} {wr wc : va_W} {H0 H : Heap} {locs : List Loc} (hD : va_D A0 (wr ++ wc)) (hS : va_S A0 H0 H locs) (hA : ∀ q, H0.size ≤ q → A0 q) : ∀ q, va_A wc H.size q → A0 q := by
  intro q h
  rcases h with ⟨k, e, h⟩ | h
  · exact hD.2 (wr.length + k) (q, e) (by rw [List.getElem?_append_right (by omega), Nat.add_sub_cancel_left]; exact h)
  · exact hA q (Nat.le_trans hS.1 h)
theorem subE_P {D : va_G} {cl : List vw_C} {wr wc : va_W} {H : Heap} (hP : va_P D cl (wr ++ wc) H) : va_P D cl wc H := fun k q h => hP (wr.length + k) q (by rw [List.getElem?_append_right (by omega), Nat.add_sub_cancel_left]; exact h)
theorem subE_D {A0 : Nat → Prop} {wr wc : va_W} (hD : va_D A0 (wr ++ wc)) : va_D (fun _ => True) wc := by
  have hC : ∀ (k : Nat) (q : Nat × va_E), wc[k]? = some q → (wr ++ wc)[wr.length + k]? = some q := fun k q h => by rw [List.getElem?_append_right (by omega), Nat.add_sub_cancel_left]; exact h
  exact ⟨fun i j x y hi hj hxy => by have := hD.1 _ _ x y (hC i x hi) (hC j y hj) hxy; omega, fun _ _ _ => trivial⟩
/-- the heart of every call -/
theorem v_run (C : OK G X cc own nL ret) {S : Type} {w : S → va_W} {post : Option Value → S → Prop} {wr wc : va_W} {mc ms : Nat} {stk : List Value} {a : Array Value}
    (hr : ∀ (H : Heap) (locs : List Loc) (ls : Array Slot), ls.size = nL → va_P (gD G) vwCl wc H → va_D (fun _ => True) wc → va_Run (xp X) (gl G) (xe X) R (xs X) (xm X) (xa X) (xb X) (xt X) (xc X) H locs cells slots mc ms (F0 (xm X) pc ls stk) st (QC (gD G) (va_A wc H.size) w post a) (va_A wc H.size))
    (kk : ∀ (v : Option Value) (u : S), post v u → V G X cc nL R Q (cells + mc) (slots + ms) (pc + 3) lv (v.toList ++ st) (wr ++ w u)) : V G X cc nL R Q cells slots pc lv stk (wr ++ wc) := by
  intro H locs ls hl hP hD hS T hT XX
  obtain ⟨v, st₀, t, T', L, h0, X', hL, e1, e2, ⟨⟨v', u, hv, hp, hP1, hD1⟩, hz, hk⟩, stp⟩ := hr H locs ls hl.1 (subE_P hP) (subE_D hD) T hT XX
  cases hv
  rw [h0] at hz hk
  have hF := freeE hD hS C.2.2.2.2.2.2.2.1
  rw [← e1] at hz hk hP1
  obtain ⟨hP2, hD2⟩ := joinE hP hD hk hF hP1 hD1
  have hS2 : va_S (xA X) (xs X).heap T'.heap (locs ++ L) := ⟨Nat.le_trans hS.1 hz, fun q h1 h2 => (hk q (Nat.lt_of_lt_of_le h1 hS.1) (fun h => h2 (hF q h))).trans (hS.2.1 q h1 h2), fun q hq => (List.mem_append.mp hq).elim (hS.2.2 q) (fun h => hF _ (hL q h))⟩
  obtain ⟨t2, a1, b1⟩ := kk v u hp T'.heap (locs ++ L) ls hl hP2 hD2 hS2 T' rfl X'
  exact ⟨t2, stp t2 a1, b1⟩
theorem ct_pre {av : List Value} {wc : va_W} {H : Heap} (C : OK G X cc own nL ret) (hP : va_P (gD G) vwCl wc H) (hD : va_D (fun _ => True) wc) : ∀ U : State, U.heap = H → (xs X).WarmedH U.vm → va_Pc av (fun U => U.heap.size = H.size ∧ va_P (gD G) vwCl wc U.heap ∧ KK G U ∧ va_D (fun _ => True) wc) av.toArray U :=
  fun U hU hW => ⟨rfl, by rw [hU], by rw [hU]; exact hP, C.2.2.2.1.warm hW, hD⟩
theorem v_callV (C : OK G X cc own nL ret) {S : Type} {w : S → va_W} {post : Option Value → S → Prop} {wr wc : va_W} {mc ms n : Nat} {y : MethodName} {ccy : ByteArray} {nLy : Nat} {rety : Option FieldType} {rm : Room} {idx : Nat} {b : Nat} {As stk : List Value} {ci q0 : Nat} {fs : List Value} {T : u_T} {N : Nat} (hM : CT G y ccy nLy rety rm mc ms (.ref b :: As) wc w post) (hY : CY y ccy nLy rety n) (hV : CV y) (k1 : Cond.methodLink own idx y ∈ W0) (hd : decode cc pc = .ok (.invokevirtual idx, 3)) (hn : As.length = n) (he : wc[q0]? = some (b, .inr (ci, fs))) (hc : vwCl[ci]? = some (y.cls, T, N)) (hrc : rm.cells = mc) (hrs : rm.slots = ms) (hR : rm.frames + 1 ≤ R.frames ∧ 8 + (nLy + 11) + rm.locals ≤ R.locals) (hst : (st.map fun v => v.category).sum ≤ 8) (hf : cells + mc ≤ R.cells ∧ slots + ms ≤ R.slots) (hs : stk = As.reverse ++ .ref b :: st) (kk : ∀ (v : Option Value) (u : S), post v u → V G X cc nL R Q (cells + mc) (slots + ms) (pc + 3) lv (v.toList ++ st) (wr ++ w u)) : V G X cc nL R Q cells slots pc lv stk (wr ++ wc) := by
  subst hs
  refine v_run (a := (Value.ref b :: As).toArray) C (fun H locs ls hls hP hD => ?_) kk
  refine va_runV (C := y.cls) ⟨C.1, C.2.1, C.2.2.2.2.2.1, C.2.2.2.2.1, C.2.2.1⟩ (hM H.size) ⟨callB_of n C.2.2.1 (W0_callee hY.2.1) rfl hrc hrs (C.2.2.1 _ hY.1) (C.2.2.1 _ k1) hY.2.2 hR, C.2.2.1 _ hV.1, C.2.2.1 _ hV.2⟩ ⟨CT.blind, va_recv C.2.2.2.1.1 hP hc he, ct_pre C hP hD⟩ rfl hn hls rfl (lv_room hst) hd hf
theorem v_callVN (C : OK G X cc own nL ret) {S : Type} {w : S → va_W} {post : Option Value → S → Prop} {wr wc : va_W} {mc ms n : Nat} {y : MethodName} {ccy : ByteArray} {nLy : Nat} {rety : Option FieldType} {rm : Room} {idx : Nat} {b : Nat} {As stk : List Value} {ci q0 : Nat} {fs : List Value} {T : u_T} {N : Nat} {host : String} (hM : CT G y ccy nLy rety rm mc ms (.ref b :: As) wc w post) (hY : CY y ccy nLy rety n) (hV : CV y) (k1 : Cond.methodLinkNest own idx y host ∈ nestL) (hd : decode cc pc = .ok (.invokevirtual idx, 3)) (hn : As.length = n) (he : wc[q0]? = some (b, .inr (ci, fs))) (hc : vwCl[ci]? = some (y.cls, T, N)) (hrc : rm.cells = mc) (hrs : rm.slots = ms) (hR : rm.frames + 1 ≤ R.frames ∧ 8 + (nLy + 11) + rm.locals ≤ R.locals) (hst : (st.map fun v => v.category).sum ≤ 8) (hf : cells + mc ≤ R.cells ∧ slots + ms ≤ R.slots) (hs : stk = As.reverse ++ .ref b :: st) (kk : ∀ (v : Option Value) (u : S), post v u → V G X cc nL R Q (cells + mc) (slots + ms) (pc + 3) lv (v.toList ++ st) (wr ++ w u)) : V G X cc nL R Q cells slots pc lv stk (wr ++ wc) := by
  subst hs
  refine v_run (a := (Value.ref b :: As).toArray) C (fun H locs ls hls hP hD => ?_) kk
  refine va_runVN (C := y.cls) ⟨C.1, C.2.1, C.2.2.2.2.2.1, C.2.2.2.2.1, C.2.2.1⟩ (hM H.size) ⟨va_cnB n C.2.2.1 (W0_callee hY.2.1) rfl hrc hrs (C.2.2.2.1.2.1 _ k1) (C.2.2.1 _ hY.1) hY.2.2 hR, C.2.2.1 _ hV.1, C.2.2.1 _ hV.2⟩ ⟨CT.blind, va_recv C.2.2.2.1.1 hP hc he, ct_pre C hP hD⟩ rfl hn hls rfl (lv_room hst) hd hf
theorem v_callS (C : OK G X cc own nL ret) {S : Type} {w : S → va_W} {post : Option Value → S → Prop} {wr wc : va_W} {mc ms n : Nat} {y : MethodName} {ccy : ByteArray} {nLy : Nat} {rety : Option FieldType} {rm : Room} {idx : Nat} {As stk : List Value} (hM : CT G y ccy nLy rety rm mc ms As wc w post) (hY : CY y ccy nLy rety n) (hV : Cond.static y ∈ W0) (k1 : Cond.methodLink own idx y ∈ W0) (hd : decode cc pc = .ok (.invokestatic idx, 3)) (hn : As.length = n) (hrc : rm.cells = mc) (hrs : rm.slots = ms) (hR : rm.frames + 1 ≤ R.frames ∧ 8 + (nLy + 11) + rm.locals ≤ R.locals) (hst : (st.map fun v => v.category).sum ≤ 8) (hf : cells + mc ≤ R.cells ∧ slots + ms ≤ R.slots) (hs : stk = As.reverse ++ st) (kk : ∀ (v : Option Value) (u : S), post v u → V G X cc nL R Q (cells + mc) (slots + ms) (pc + 3) lv (v.toList ++ st) (wr ++ w u)) : V G X cc nL R Q cells slots pc lv stk (wr ++ wc) := by
  subst hs
  refine v_run (a := As.toArray) C (fun H locs ls hls hP hD => ?_) kk
  refine va_runS ⟨C.1, C.2.1, C.2.2.2.2.2.1, C.2.2.2.2.1, C.2.2.1⟩ (hM H.size) ⟨callB_of n C.2.2.1 (W0_callee hY.2.1) rfl hrc hrs (C.2.2.1 _ hY.1) (C.2.2.1 _ k1) hY.2.2 hR, C.2.2.1 _ hV⟩ ⟨CT.blind, ct_pre C hP hD⟩ rfl hn hls rfl (lv_room hst) hd hf
theorem v_callSN (C : OK G X cc own nL ret) {S : Type} {w : S → va_W} {post : Option Value → S → Prop} {wr wc : va_W} {mc ms n : Nat} {y : MethodName} {ccy : ByteArray} {nLy : Nat} {rety : Option FieldType} {rm : Room} {idx : Nat} {As stk : List Value} {host : String} (hM : CT G y ccy nLy rety rm mc ms As wc w post) (hY : CY y ccy nLy rety n) (hV : Cond.static y ∈ W0) (k1 : Cond.methodLinkNest own idx y host ∈ nestL) (hd : decode cc pc = .ok (.invokestatic idx, 3)) (hn : As.length = n) (hrc : rm.cells = mc) (hrs : rm.slots = ms) (hR : rm.frames + 1 ≤ R.frames ∧ 8 + (nLy + 11) + rm.locals ≤ R.locals) (hst : (st.map fun v => v.category).sum ≤ 8) (hf : cells + mc ≤ R.cells ∧ slots + ms ≤ R.slots) (hs : stk = As.reverse ++ st) (kk : ∀ (v : Option Value) (u : S), post v u → V G X cc nL R Q (cells + mc) (slots + ms) (pc + 3) lv (v.toList ++ st) (wr ++ w u)) : V G X cc nL R Q cells slots pc lv stk (wr ++ wc) := by
  subst hs
  refine v_run (a := As.toArray) C (fun H locs ls hls hP hD => ?_) kk
  refine va_runSN ⟨C.1, C.2.1, C.2.2.2.2.2.1, C.2.2.2.2.1, C.2.2.1⟩ (hM H.size) ⟨va_cnB n C.2.2.1 (W0_callee hY.2.1) rfl hrc hrs (C.2.2.2.1.2.1 _ k1) (C.2.2.1 _ hY.1) hY.2.2 hR, C.2.2.1 _ hV, trivial⟩ ⟨CT.blind, ct_pre C hP hD⟩ rfl hn hls rfl (lv_room hst) hd hf
theorem v_callI (C : OK G X cc own nL ret) {S : Type} {w : S → va_W} {post : Option Value → S → Prop} {wr wc : va_W} {mc ms n : Nat} {y : MethodName} {ccy : ByteArray} {nLy : Nat} {rm : Room} {idx : Nat} {b : Nat} {As stk : List Value} (hM : CT G y ccy nLy none rm mc ms (.ref b :: As) wc w post) (hY : CY y ccy nLy none n) (hV : Cond.instanceMethod y ∈ W0) (hini : y.name = "<init>") (k1 : Cond.methodLink own idx y ∈ W0) (hd : decode cc pc = .ok (.invokespecial idx, 3)) (hn : As.length = n) (hrc : rm.cells = mc) (hrs : rm.slots = ms) (hR : rm.frames + 1 ≤ R.frames ∧ 8 + (nLy + 11) + rm.locals ≤ R.locals) (hst : (st.map fun v => v.category).sum ≤ 8) (hf : cells + mc ≤ R.cells ∧ slots + ms ≤ R.slots) (hs : stk = As.reverse ++ .ref b :: st) (kk : ∀ (v : Option Value) (u : S), post v u → V G X cc nL R Q (cells + mc) (slots + ms) (pc + 3) lv (v.toList ++ st) (wr ++ w u)) : V G X cc nL R Q cells slots pc lv stk (wr ++ wc) := by
  subst hs
  refine v_run (a := (Value.ref b :: As).toArray) C (fun H locs ls hls hP hD => ?_) kk
  refine va_runI ⟨C.1, C.2.1, C.2.2.2.2.2.1, C.2.2.2.2.1, C.2.2.1⟩ (hM H.size) ⟨callB_of n C.2.2.1 (W0_callee hY.2.1) rfl hrc hrs (C.2.2.1 _ hY.1) (C.2.2.1 _ k1) hY.2.2 hR, hini, C.2.2.1 _ hV⟩ ⟨CT.blind, ct_pre C hP hD⟩ rfl hn hls rfl (lv_room hst) hd hf
theorem v_callIN (C : OK G X cc own nL ret) {S : Type} {w : S → va_W} {post : Option Value → S → Prop} {wr wc : va_W} {mc ms n : Nat} {y : MethodName} {ccy : ByteArray} {nLy : Nat} {rm : Room} {idx : Nat} {b : Nat} {As stk : List Value} {host : String} (hM : CT G y ccy nLy none rm mc ms (.ref b :: As) wc w post) (hY : CY y ccy nLy none n) (hV : Cond.instanceMethod y ∈ W0) (hini : y.name = "<init>") (k1 : Cond.methodLinkNest own idx y host ∈ nestL) (hd : decode cc pc = .ok (.invokespecial idx, 3)) (hn : As.length = n) (hrc : rm.cells = mc) (hrs : rm.slots = ms) (hR : rm.frames + 1 ≤ R.frames ∧ 8 + (nLy + 11) + rm.locals ≤ R.locals) (hst : (st.map fun v => v.category).sum ≤ 8) (hf : cells + mc ≤ R.cells ∧ slots + ms ≤ R.slots) (hs : stk = As.reverse ++ .ref b :: st) (kk : ∀ (v : Option Value) (u : S), post v u → V G X cc nL R Q (cells + mc) (slots + ms) (pc + 3) lv (v.toList ++ st) (wr ++ w u)) : V G X cc nL R Q cells slots pc lv stk (wr ++ wc) := by
  subst hs
  refine v_run (a := (Value.ref b :: As).toArray) C (fun H locs ls hls hP hD => ?_) kk
  refine va_runIN ⟨C.1, C.2.1, C.2.2.2.2.2.1, C.2.2.2.2.1, C.2.2.1⟩ (hM H.size) ⟨va_cnB n C.2.2.1 (W0_callee hY.2.1) rfl hrc hrs (C.2.2.2.1.2.1 _ k1) (C.2.2.1 _ hY.1) hY.2.2 hR, hini, C.2.2.1 _ hV⟩ ⟨CT.blind, ct_pre C hP hD⟩ rfl hn hls rfl (lv_room hst) hd hf
end VR
end
section
/-! rows over numbers nI: operands that are naturals -/
section VN
variable {G : TG} {X : TX} {cc : ByteArray} {own : String} {nL : Nat} {ret : Option FieldType} {R : Room} {Q : State → Prop} {cells slots pc : Nat} {lv : Nat → Option Value} {st : List Value} {ws : va_W}
theorem Ri_kk {S : Type} {f : Int32 → S → Prop} {w : S → va_W} {mc ms : Nat} (h : ∀ (r : Int32) (u : S), f r u → V G X cc nL R Q mc ms pc lv (.int r :: st) (w u)) : ∀ (v : Option Value) (u : S), Ri f v u → V G X cc nL R Q mc ms pc lv (v.toList ++ st) (w u) := fun v u q => by obtain ⟨r, e, q⟩ := q; subst e; exact h r u q
theorem Rl_kk {S : Type} {f : Int64 → S → Prop} {w : S → va_W} {mc ms : Nat} (h : ∀ (r : Int64) (u : S), f r u → V G X cc nL R Q mc ms pc lv (.long r :: st) (w u)) : ∀ (v : Option Value) (u : S), Rl f v u → V G X cc nL R Q mc ms pc lv (v.toList ++ st) (w u) := fun v u q => by obtain ⟨r, e, q⟩ := q; subst e; exact h r u q
theorem Rv_kk {S : Type} {f : S → Prop} {w : S → va_W} {mc ms : Nat} (h : ∀ (u : S), f u → V G X cc nL R Q mc ms pc lv st (w u)) : ∀ (v : Option Value) (u : S), Rv f v u → V G X cc nL R Q mc ms pc lv (v.toList ++ st) (w u) := fun v u q => by obtain ⟨e, q⟩ := q; subst e; exact h u q
theorem Rq_kk {S : Type} {f : Option Nat → S → Prop} {w : S → va_W} {mc ms : Nat} (h : ∀ (r : Option Nat) (u : S), f r u → V G X cc nL R Q mc ms pc lv (va_rf r :: st) (w u)) : ∀ (v : Option Value) (u : S), Rq f v u → V G X cc nL R Q mc ms pc lv (v.toList ++ st) (w u) := fun v u q => by obtain ⟨r, e, q⟩ := q; subst e; exact h r u q
theorem v_nm {x : Int32} (kk : ∀ y : Int32, y = x → V G X cc nL R Q cells slots pc lv (.int y :: st) ws) : V G X cc nL R Q cells slots pc lv (.int x :: st) ws := kk x rfl
theorem v_nml {x : Int64} (kk : ∀ y : Int64, y = x → V G X cc nL R Q cells slots pc lv (.long y :: st) ws) : V G X cc nL R Q cells slots pc lv (.long x :: st) ws := kk x rfl
theorem V.lessE {l : List (Nat × Value)} (kk : V G X cc nL R Q cells slots pc (lvo l) st ws) (h : lvsub lv l) : V G X cc nL R Q cells slots pc lv st ws := V.less l h kk
theorem v_iaddN (C : OK G X cc own nL ret) {x y : Int32} (a b : Nat) (hx : x = nI a) (hy : y = nI b) (hd : decode cc pc = .ok (.iadd, 1)) (kk : V G X cc nL R Q cells slots (pc + 1) lv (.int (nI (a + b)) :: st) ws) : V G X cc nL R Q cells slots pc lv (.int y :: .int x :: st) ws := by
  subst hx; subst hy
  exact v_iadd C hd (by rw [nI_add]; exact kk)
theorem v_isubN (C : OK G X cc own nL ret) {x y : Int32} (a b : Nat) (hx : x = nI a) (hy : y = nI b) (h : b ≤ a) (hd : decode cc pc = .ok (.isub, 1)) (kk : V G X cc nL R Q cells slots (pc + 1) lv (.int (nI (a - b)) :: st) ws) : V G X cc nL R Q cells slots pc lv (.int y :: .int x :: st) ws := by
  subst hx; subst hy
  exact v_isub C hd (by rw [pk_sub h]; exact kk)
theorem v_imulN (C : OK G X cc own nL ret) {x y : Int32} (a b : Nat) (hx : x = nI a) (hy : y = nI b) (hd : decode cc pc = .ok (.imul, 1)) (kk : V G X cc nL R Q cells slots (pc + 1) lv (.int (nI (a * b)) :: st) ws) : V G X cc nL R Q cells slots pc lv (.int y :: .int x :: st) ws := by
  subst hx; subst hy
  exact v_imul C hd (by rw [pk_mul]; exact kk)
theorem v_idivN (C : OK G X cc own nL ret) {x y : Int32} (a b : Nat) (hx : x = nI a) (hy : y = nI b) (ha : a < 2 ^ 31) (h0 : 0 < b) (hb : b < 2 ^ 31) (hd : decode cc pc = .ok (.idiv, 1)) (kk : V G X cc nL R Q cells slots (pc + 1) lv (.int (nI (a / b)) :: st) ws) : V G X cc nL R Q cells slots pc lv (.int y :: .int x :: st) ws := by
  subst hx; subst hy
  exact v_idiv C hd (nI_ne0 h0 hb) (by rw [pk_div ha h0 hb]; exact kk)
theorem v_iremN (C : OK G X cc own nL ret) {x y : Int32} (a b : Nat) (hx : x = nI a) (hy : y = nI b) (ha : a < 2 ^ 31) (h0 : 0 < b) (hb : b < 2 ^ 31) (hd : decode cc pc = .ok (.irem, 1)) (kk : V G X cc nL R Q cells slots (pc + 1) lv (.int (nI (a % b)) :: st) ws) : V G X cc nL R Q cells slots pc lv (.int y :: .int x :: st) ws := by
  subst hx; subst hy
  exact v_irem C hd (nI_ne0 h0 hb) (by rw [pk_rem ha h0 hb]; exact kk)
theorem v_iinc1 (C : OK G X cc own nL ret) {i : Nat} {x : Int32} (a : Nat) (hx : x = nI a) (hd : decode cc pc = .ok (.iinc i 1, 3)) (h : lv i = some (.int x)) (kk : V G X cc nL R Q cells slots (pc + 3) (s1 lv i (.int (nI (a + 1)))) st ws) : V G X cc nL R Q cells slots pc lv st ws := by
  subst hx
  exact v_iinc C hd h (by rw [nI_succ]; rfl) kk
theorem v_iincI (C : OK G X cc own nL ret) {i : Nat} {x : Int32} (hd : decode cc pc = .ok (.iinc i 1, 3)) (h : lv i = some (.int x)) (kk : V G X cc nL R Q cells slots (pc + 3) (s1 lv i (.int (x + 1))) st ws) : V G X cc nL R Q cells slots pc lv st ws := v_iinc C hd h rfl kk
theorem v_iincD (C : OK G X cc own nL ret) {i : Nat} {x : Int32} (a : Nat) (hx : x = nI a) (h0 : 1 ≤ a) (hd : decode cc pc = .ok (.iinc i (-1), 3)) (h : lv i = some (.int x)) (kk : V G X cc nL R Q cells slots (pc + 3) (s1 lv i (.int (nI (a - 1)))) st ws) : V G X cc nL R Q cells slots pc lv st ws := by
  obtain ⟨b, rfl⟩ : ∃ b, a = b + 1 := ⟨a - 1, by omega⟩
  subst hx
  exact v_iinc C hd h (pk_m1 b) kk
theorem v_icmp_eqN (C : OK G X cc own nL ret) {x y : Int32} (a b : Nat) (hx : x = nI a) (hy : y = nI b) (ha : a < 2 ^ 31) (hb : b < 2 ^ 31) {off : Int} {tgt : Nat} (hd : decode cc pc = .ok (.if_icmp .eq off, 3)) (ht : (pc : Int) + off = (tgt : Int)) (kt : a = b → V G X cc nL R Q cells slots tgt lv st ws) (kf : a ≠ b → V G X cc nL R Q cells slots (pc + 3) lv st ws) : V G X cc nL R Q cells slots pc lv (.int y :: .int x :: st) ws := by
  subst hx; subst hy
  exact v_icmp_eq C hd ht (fun q => kt ((nI_eq ha hb).mp q)) (fun q => kf (fun e => q ((nI_eq ha hb).mpr e)))
theorem v_if_eqN (C : OK G X cc own nL ret) {x : Int32} (a : Nat) (hx : x = nI a) (ha : a < 2 ^ 31) {off : Int} {tgt : Nat} (hd : decode cc pc = .ok (.ifCond .eq off, 3)) (ht : (pc : Int) + off = (tgt : Int)) (kt : a = 0 → V G X cc nL R Q cells slots tgt lv st ws) (kf : a ≠ 0 → V G X cc nL R Q cells slots (pc + 3) lv st ws) : V G X cc nL R Q cells slots pc lv (.int x :: st) ws := by
  subst hx
  have hb : (0 : Nat) < 2 ^ 31 := by decide
  exact v_if_eq C hd ht (fun q => kt ((nI_eq ha (b := 0) hb).mp q)) (fun q => kf (fun e => q ((nI_eq ha (b := 0) hb).mpr e)))
theorem v_icmp_neN (C : OK G X cc own nL ret) {x y : Int32} (a b : Nat) (hx : x = nI a) (hy : y = nI b) (ha : a < 2 ^ 31) (hb : b < 2 ^ 31) {off : Int} {tgt : Nat} (hd : decode cc pc = .ok (.if_icmp .ne off, 3)) (ht : (pc : Int) + off = (tgt : Int)) (kt : a ≠ b → V G X cc nL R Q cells slots tgt lv st ws) (kf : a = b → V G X cc nL R Q cells slots (pc + 3) lv st ws) : V G X cc nL R Q cells slots pc lv (.int y :: .int x :: st) ws := by
  subst hx; subst hy
  exact v_icmp_ne C hd ht (fun q => kt (fun e => q ((nI_eq ha hb).mpr e))) (fun q => kf ((nI_eq ha hb).mp q))
theorem v_if_neN (C : OK G X cc own nL ret) {x : Int32} (a : Nat) (hx : x = nI a) (ha : a < 2 ^ 31) {off : Int} {tgt : Nat} (hd : decode cc pc = .ok (.ifCond .ne off, 3)) (ht : (pc : Int) + off = (tgt : Int)) (kt : a ≠ 0 → V G X cc nL R Q cells slots tgt lv st ws) (kf : a = 0 → V G X cc nL R Q cells slots (pc + 3) lv st ws) : V G X cc nL R Q cells slots pc lv (.int x :: st) ws := by
  subst hx
  have hb : (0 : Nat) < 2 ^ 31 := by decide
  exact v_if_ne C hd ht (fun q => kt (fun e => q ((nI_eq ha (b := 0) hb).mpr e))) (fun q => kf ((nI_eq ha (b := 0) hb).mp q))
theorem v_icmp_ltN (C : OK G X cc own nL ret) {x y : Int32} (a b : Nat) (hx : x = nI a) (hy : y = nI b) (ha : a < 2 ^ 31) (hb : b < 2 ^ 31) {off : Int} {tgt : Nat} (hd : decode cc pc = .ok (.if_icmp .lt off, 3)) (ht : (pc : Int) + off = (tgt : Int)) (kt : a < b → V G X cc nL R Q cells slots tgt lv st ws) (kf : b ≤ a → V G X cc nL R Q cells slots (pc + 3) lv st ws) : V G X cc nL R Q cells slots pc lv (.int y :: .int x :: st) ws := by
  subst hx; subst hy
  exact v_icmp_lt C hd ht (fun q => kt ((nI_ltI ha hb).mp q)) (fun q => kf (by have := mt (nI_ltI ha hb).mpr q; omega))
theorem v_if_ltN (C : OK G X cc own nL ret) {x : Int32} (a : Nat) (hx : x = nI a) (ha : a < 2 ^ 31) {off : Int} {tgt : Nat} (hd : decode cc pc = .ok (.ifCond .lt off, 3)) (ht : (pc : Int) + off = (tgt : Int)) (kt : a < 0 → V G X cc nL R Q cells slots tgt lv st ws) (kf : 0 ≤ a → V G X cc nL R Q cells slots (pc + 3) lv st ws) : V G X cc nL R Q cells slots pc lv (.int x :: st) ws := by
  subst hx
  have hb : (0 : Nat) < 2 ^ 31 := by decide
  exact v_if_lt C hd ht (fun q => kt ((nI_ltI ha (b := 0) hb).mp q)) (fun q => kf (by have := mt (nI_ltI ha (b := 0) hb).mpr q; omega))
theorem v_icmp_geN (C : OK G X cc own nL ret) {x y : Int32} (a b : Nat) (hx : x = nI a) (hy : y = nI b) (ha : a < 2 ^ 31) (hb : b < 2 ^ 31) {off : Int} {tgt : Nat} (hd : decode cc pc = .ok (.if_icmp .ge off, 3)) (ht : (pc : Int) + off = (tgt : Int)) (kt : b ≤ a → V G X cc nL R Q cells slots tgt lv st ws) (kf : a < b → V G X cc nL R Q cells slots (pc + 3) lv st ws) : V G X cc nL R Q cells slots pc lv (.int y :: .int x :: st) ws := by
  subst hx; subst hy
  exact v_icmp_ge C hd ht (fun q => kt ((nI_leI hb ha).mp q)) (fun q => kf (by have := mt (nI_leI hb ha).mpr q; omega))
theorem v_if_geN (C : OK G X cc own nL ret) {x : Int32} (a : Nat) (hx : x = nI a) (ha : a < 2 ^ 31) {off : Int} {tgt : Nat} (hd : decode cc pc = .ok (.ifCond .ge off, 3)) (ht : (pc : Int) + off = (tgt : Int)) (kt : 0 ≤ a → V G X cc nL R Q cells slots tgt lv st ws) (kf : a < 0 → V G X cc nL R Q cells slots (pc + 3) lv st ws) : V G X cc nL R Q cells slots pc lv (.int x :: st) ws := by
  subst hx
  have hb : (0 : Nat) < 2 ^ 31 := by decide
  exact v_if_ge C hd ht (fun q => kt ((nI_leI (a := 0) hb ha).mp q)) (fun q => kf (by have := mt (nI_leI (a := 0) hb ha).mpr q; omega))
theorem v_icmp_gtN (C : OK G X cc own nL ret) {x y : Int32} (a b : Nat) (hx : x = nI a) (hy : y = nI b) (ha : a < 2 ^ 31) (hb : b < 2 ^ 31) {off : Int} {tgt : Nat} (hd : decode cc pc = .ok (.if_icmp .gt off, 3)) (ht : (pc : Int) + off = (tgt : Int)) (kt : b < a → V G X cc nL R Q cells slots tgt lv st ws) (kf : a ≤ b → V G X cc nL R Q cells slots (pc + 3) lv st ws) : V G X cc nL R Q cells slots pc lv (.int y :: .int x :: st) ws := by
  subst hx; subst hy
  exact v_icmp_gt C hd ht (fun q => kt ((nI_ltI hb ha).mp q)) (fun q => kf (by have := mt (nI_ltI hb ha).mpr q; omega))
theorem v_if_gtN (C : OK G X cc own nL ret) {x : Int32} (a : Nat) (hx : x = nI a) (ha : a < 2 ^ 31) {off : Int} {tgt : Nat} (hd : decode cc pc = .ok (.ifCond .gt off, 3)) (ht : (pc : Int) + off = (tgt : Int)) (kt : 0 < a → V G X cc nL R Q cells slots tgt lv st ws) (kf : a ≤ 0 → V G X cc nL R Q cells slots (pc + 3) lv st ws) : V G X cc nL R Q cells slots pc lv (.int x :: st) ws := by
  subst hx
  have hb : (0 : Nat) < 2 ^ 31 := by decide
  exact v_if_gt C hd ht (fun q => kt ((nI_ltI (a := 0) hb ha).mp q)) (fun q => kf (by have := mt (nI_ltI (a := 0) hb ha).mpr q; omega))
theorem v_icmp_leN (C : OK G X cc own nL ret) {x y : Int32} (a b : Nat) (hx : x = nI a) (hy : y = nI b) (ha : a < 2 ^ 31) (hb : b < 2 ^ 31) {off : Int} {tgt : Nat} (hd : decode cc pc = .ok (.if_icmp .le off, 3)) (ht : (pc : Int) + off = (tgt : Int)) (kt : a ≤ b → V G X cc nL R Q cells slots tgt lv st ws) (kf : b < a → V G X cc nL R Q cells slots (pc + 3) lv st ws) : V G X cc nL R Q cells slots pc lv (.int y :: .int x :: st) ws := by
  subst hx; subst hy
  exact v_icmp_le C hd ht (fun q => kt ((nI_leI ha hb).mp q)) (fun q => kf (by have := mt (nI_leI ha hb).mpr q; omega))
theorem v_if_leN (C : OK G X cc own nL ret) {x : Int32} (a : Nat) (hx : x = nI a) (ha : a < 2 ^ 31) {off : Int} {tgt : Nat} (hd : decode cc pc = .ok (.ifCond .le off, 3)) (ht : (pc : Int) + off = (tgt : Int)) (kt : a ≤ 0 → V G X cc nL R Q cells slots tgt lv st ws) (kf : 0 < a → V G X cc nL R Q cells slots (pc + 3) lv st ws) : V G X cc nL R Q cells slots pc lv (.int x :: st) ws := by
  subst hx
  have hb : (0 : Nat) < 2 ^ 31 := by decide
  exact v_if_le C hd ht (fun q => kt ((nI_leI ha (b := 0) hb).mp q)) (fun q => kf (by have := mt (nI_leI ha (b := 0) hb).mpr q; omega))
theorem v_if_eqT (C : OK G X cc own nL ret) {x : Int32} (h : x = 0) {off : Int} {tgt : Nat} (hd : decode cc pc = .ok (.ifCond .eq off, 3)) (ht : (pc : Int) + off = (tgt : Int)) (kt : V G X cc nL R Q cells slots tgt lv st ws) : V G X cc nL R Q cells slots pc lv (.int x :: st) ws := v_if_eq C hd ht (fun _ => kt) (fun q => absurd h q)
theorem v_if_eqF (C : OK G X cc own nL ret) {x : Int32} (h : ¬ x = 0) {off : Int} {tgt : Nat} (hd : decode cc pc = .ok (.ifCond .eq off, 3)) (ht : (pc : Int) + off = (tgt : Int)) (kf : V G X cc nL R Q cells slots (pc + 3) lv st ws) : V G X cc nL R Q cells slots pc lv (.int x :: st) ws := v_if_eq C hd ht (fun q => absurd q h) (fun _ => kf)
theorem v_if_neT (C : OK G X cc own nL ret) {x : Int32} (h : ¬ x = 0) {off : Int} {tgt : Nat} (hd : decode cc pc = .ok (.ifCond .ne off, 3)) (ht : (pc : Int) + off = (tgt : Int)) (kt : V G X cc nL R Q cells slots tgt lv st ws) : V G X cc nL R Q cells slots pc lv (.int x :: st) ws := v_if_ne C hd ht (fun _ => kt) (fun q => absurd q h)
theorem v_if_neF (C : OK G X cc own nL ret) {x : Int32} (h : x = 0) {off : Int} {tgt : Nat} (hd : decode cc pc = .ok (.ifCond .ne off, 3)) (ht : (pc : Int) + off = (tgt : Int)) (kf : V G X cc nL R Q cells slots (pc + 3) lv st ws) : V G X cc nL R Q cells slots pc lv (.int x :: st) ws := v_if_ne C hd ht (fun q => absurd h q) (fun _ => kf)
theorem v_callV0 (C : OK G X cc own nL ret) {S : Type} {w : S → va_W} {post : Option Value → S → Prop} {wc : va_W} {mc ms n : Nat} {y : MethodName} {ccy : ByteArray} {nLy : Nat} {rety : Option FieldType} {rm : Room} {idx : Nat} {b : Nat} {As stk : List Value} {ci q0 : Nat} {fs : List Value} {T : u_T} {N : Nat} (hM : CT G y ccy nLy rety rm mc ms (.ref b :: As) wc w post) (hY : CY y ccy nLy rety n) (hV : CV y) (k1 : Cond.methodLink own idx y ∈ W0) (hd : decode cc pc = .ok (.invokevirtual idx, 3)) (hn : As.length = n) (he : wc[q0]? = some (b, .inr (ci, fs))) (hc : vwCl[ci]? = some (y.cls, T, N)) (hrc : rm.cells = mc) (hrs : rm.slots = ms) (hR : rm.frames + 1 ≤ R.frames ∧ 8 + (nLy + 11) + rm.locals ≤ R.locals) (hst : (st.map fun v => v.category).sum ≤ 8) (hf : cells + mc ≤ R.cells ∧ slots + ms ≤ R.slots) (hs : stk = As.reverse ++ .ref b :: st) (kk : ∀ (v : Option Value) (u : S), post v u → V G X cc nL R Q (cells + mc) (slots + ms) (pc + 3) lv (v.toList ++ st) (w u)) : V G X cc nL R Q cells slots pc lv stk wc := v_callV (wr := []) C hM hY hV k1 hd hn he hc hrc hrs hR hst hf hs kk
theorem v_callVN0 (C : OK G X cc own nL ret) {S : Type} {w : S → va_W} {post : Option Value → S → Prop} {wc : va_W} {mc ms n : Nat} {y : MethodName} {ccy : ByteArray} {nLy : Nat} {rety : Option FieldType} {rm : Room} {idx : Nat} {b : Nat} {As stk : List Value} {ci q0 : Nat} {fs : List Value} {T : u_T} {N : Nat} (hM : CT G y ccy nLy rety rm mc ms (.ref b :: As) wc w post) (hY : CY y ccy nLy rety n) (hV : CV y) {host : String} (k1 : Cond.methodLinkNest own idx y host ∈ nestL) (hd : decode cc pc = .ok (.invokevirtual idx, 3)) (hn : As.length = n) (he : wc[q0]? = some (b, .inr (ci, fs))) (hc : vwCl[ci]? = some (y.cls, T, N)) (hrc : rm.cells = mc) (hrs : rm.slots = ms) (hR : rm.frames + 1 ≤ R.frames ∧ 8 + (nLy + 11) + rm.locals ≤ R.locals) (hst : (st.map fun v => v.category).sum ≤ 8) (hf : cells + mc ≤ R.cells ∧ slots + ms ≤ R.slots) (hs : stk = As.reverse ++ .ref b :: st) (kk : ∀ (v : Option Value) (u : S), post v u → V G X cc nL R Q (cells + mc) (slots + ms) (pc + 3) lv (v.toList ++ st) (w u)) : V G X cc nL R Q cells slots pc lv stk wc := v_callVN (wr := []) C hM hY hV k1 hd hn he hc hrc hrs hR hst hf hs kk
theorem v_callS0 (C : OK G X cc own nL ret) {S : Type} {w : S → va_W} {post : Option Value → S → Prop} {wc : va_W} {mc ms n : Nat} {y : MethodName} {ccy : ByteArray} {nLy : Nat} {rety : Option FieldType} {rm : Room} {idx : Nat} {As stk : List Value} (hM : CT G y ccy nLy rety rm mc ms As wc w post) (hY : CY y ccy nLy rety n) (hV : Cond.static y ∈ W0) (k1 : Cond.methodLink own idx y ∈ W0) (hd : decode cc pc = .ok (.invokestatic idx, 3)) (hn : As.length = n) (hrc : rm.cells = mc) (hrs : rm.slots = ms) (hR : rm.frames + 1 ≤ R.frames ∧ 8 + (nLy + 11) + rm.locals ≤ R.locals) (hst : (st.map fun v => v.category).sum ≤ 8) (hf : cells + mc ≤ R.cells ∧ slots + ms ≤ R.slots) (hs : stk = As.reverse ++ st) (kk : ∀ (v : Option Value) (u : S), post v u → V G X cc nL R Q (cells + mc) (slots + ms) (pc + 3) lv (v.toList ++ st) (w u)) : V G X cc nL R Q cells slots pc lv stk wc := v_callS (wr := []) C hM hY hV k1 hd hn hrc hrs hR hst hf hs kk
theorem v_callSN0 (C : OK G X cc own nL ret) {S : Type} {w : S → va_W} {post : Option Value → S → Prop} {wc : va_W} {mc ms n : Nat} {y : MethodName} {ccy : ByteArray} {nLy : Nat} {rety : Option FieldType} {rm : Room} {idx : Nat} {As stk : List Value} (hM : CT G y ccy nLy rety rm mc ms As wc w post) (hY : CY y ccy nLy rety n) (hV : Cond.static y ∈ W0) {host : String} (k1 : Cond.methodLinkNest own idx y host ∈ nestL) (hd : decode cc pc = .ok (.invokestatic idx, 3)) (hn : As.length = n) (hrc : rm.cells = mc) (hrs : rm.slots = ms) (hR : rm.frames + 1 ≤ R.frames ∧ 8 + (nLy + 11) + rm.locals ≤ R.locals) (hst : (st.map fun v => v.category).sum ≤ 8) (hf : cells + mc ≤ R.cells ∧ slots + ms ≤ R.slots) (hs : stk = As.reverse ++ st) (kk : ∀ (v : Option Value) (u : S), post v u → V G X cc nL R Q (cells + mc) (slots + ms) (pc + 3) lv (v.toList ++ st) (w u)) : V G X cc nL R Q cells slots pc lv stk wc := v_callSN (wr := []) C hM hY hV k1 hd hn hrc hrs hR hst hf hs kk
/-- a row's contents count only within its length -/
theorem arrV_cong {c : ClassId} {n : Nat} {f g : Nat → Value} (h : ∀ k, k < n → f k = g k) : arrV c n f = arrV c n g := by
  unfold arrV
  congr 2
  funext j
  exact h j.val j.isLt
theorem V.funI {q0 a n : Nat} {c : ClassId} {f g : Nat → Int32} (he : ws[q0]? = some (a, .inl (c, n, .inl f))) (h : ∀ k, k < n → f k = g k) {ws' : va_W} (hws : ws.set q0 (a, .inl (c, n, .inl g)) = ws') (kk : V G X cc nL R Q cells slots pc lv st ws') : V G X cc nL R Q cells slots pc lv st ws := by
  subst hws
  intro H locs ls hl hP hD hS
  refine kk H locs ls hl (hP.set hD he ?_ (fun _ _ => rfl)) (hD.set he) hS
  show H[a]? = some (vp_cell c (n, .inl g))
  have h1 : H[a]? = some (vp_cell c (n, .inl f)) := hP q0 _ he
  rw [h1, vp_cell_i, vp_cell_i, arrV_cong (fun k hk => by rw [h k hk])]
theorem CT.mono {y : MethodName} {ccy : ByteArray} {nLy : Nat} {rety : Option FieldType} {rm : Room} {mc ms : Nat} {av : List Value} {S S2 : Type} {w : S → va_W} {post : Option Value → S → Prop} {w2 : S2 → va_W} {post2 : Option Value → S2 → Prop} (h : CT G y ccy nLy rety rm mc ms av ws w post) (hp : ∀ v u, post v u → ∃ u2, w u = w2 u2 ∧ post2 v u2) : CT G y ccy nLy rety rm mc ms av ws w2 post2 := by
  intro sz p e ha hc hk s m args below hf happ hP hK
  obtain ⟨n, o, h1, h2, h3, ⟨⟨v, u, q1, q2, q3, q4⟩, q5⟩, q6⟩ := h sz p e ha hc hk s m args below hf happ hP hK
  obtain ⟨u2, e2, q2⟩ := hp v u q2
  exact ⟨n, o, h1, h2, h3, ⟨⟨v, u2, q1, q2, by rw [← e2]; exact q3, by rw [← e2]; exact q4⟩, q5⟩, q6⟩
theorem CT.monoI {y : MethodName} {ccy : ByteArray} {nLy : Nat} {rety : Option FieldType} {rm : Room} {mc ms : Nat} {av : List Value} {S : Type} {w : S → va_W} {f g : Int32 → S → Prop} (h : CT G y ccy nLy rety rm mc ms av ws w (Ri f)) (hp : ∀ v u, f v u → g v u) : CT G y ccy nLy rety rm mc ms av ws w (Ri g) := h.mono (fun v u q => ⟨u, rfl, by obtain ⟨r, e, q⟩ := q; exact ⟨r, e, hp r u q⟩⟩)
theorem CT.monoV {y : MethodName} {ccy : ByteArray} {nLy : Nat} {rety : Option FieldType} {rm : Room} {mc ms : Nat} {av : List Value} {S : Type} {w : S → va_W} {f g : S → Prop} (h : CT G y ccy nLy rety rm mc ms av ws w (Rv f)) (hp : ∀ u, f u → g u) : CT G y ccy nLy rety rm mc ms av ws w (Rv g) := h.mono (fun v u q => ⟨u, rfl, by obtain ⟨e, q⟩ := q; exact ⟨e, hp u q⟩⟩)
end VN
end
section
/-! worlds: a state is its int fields by slot, its int rows by slot, and one row of longs -/
abbrev MS : Type := (Nat → Int32) × (Nat → Nat → Int32) × (Nat → Int64)
def mI (S : MS) (k : Nat) : Int32 := S.1 k
def mA (S : MS) (k : Nat) : Nat → Int32 := S.2.1 k
def mL (S : MS) : Nat → Int64 := S.2.2
def sI (S : MS) (k : Nat) (v : Int32) : MS := (va_up S.1 k v, S.2.1, S.2.2)
def sA (S : MS) (k : Nat) (f : Nat → Int32) : MS := (S.1, va_up S.2.1 k f, S.2.2)
def sL (S : MS) (f : Nat → Int64) : MS := (S.1, S.2.1, f)
theorem mA_same {S : MS} {k : Nat} {f : Nat → Int32} : mA (sA S k f) k = f := va_up_self ..
theorem mA_ne {S : MS} {k j : Nat} {f : Nat → Int32} (h : j ≠ k) : mA (sA S k f) j = mA S j := va_up_ne _ _ h
theorem mI_same {S : MS} {k : Nat} {v : Int32} : mI (sI S k v) k = v := va_up_self ..
theorem mI_ne {S : MS} {k j : Nat} {v : Int32} (h : j ≠ k) : mI (sI S k v) j = mI S j := va_up_ne _ _ h
theorem mI_sA {S : MS} {k j : Nat} {f : Nat → Int32} : mI (sA S k f) j = mI S j := rfl
theorem mA_sI {S : MS} {k j : Nat} {v : Int32} : mA (sI S k v) j = mA S j := rfl
theorem mL_sA {S : MS} {k : Nat} {f : Nat → Int32} : mL (sA S k f) = mL S := rfl
theorem mL_sI {S : MS} {k : Nat} {v : Int32} : mL (sI S k v) = mL S := rfl
theorem mA_sL {S : MS} {j : Nat} {f : Nat → Int64} : mA (sL S f) j = mA S j := rfl
theorem mI_sL {S : MS} {j : Nat} {f : Nat → Int64} : mI (sL S f) j = mI S j := rfl
theorem mL_sL {S : MS} {f : Nat → Int64} : mL (sL S f) = f := rfl
theorem va_up_id {α : Type} (f : Nat → α) (k : Nat) : va_up f k (f k) = f := by
  funext j
  by_cases h : j = k
  · subst h; exact va_up_self ..
  · exact va_up_ne _ _ h
theorem va_up_up {α : Type} (f : Nat → α) (k : Nat) (x y : α) : va_up (va_up f k x) k y = va_up f k y := bx_uu f k x y
theorem va_up_comm {α : Type} (f : Nat → α) {j k : Nat} (h : j ≠ k) (x y : α) : va_up (va_up f j x) k y = va_up (va_up f k y) j x := by
  funext i
  simp only [va_up]
  by_cases h1 : i = k
  · subst h1
    have : ¬ i = j := fun q => h q.symm
    simp [this]
  · by_cases h2 : i = j
    · subst h2; simp [h1]
    · simp [h1, h2]
theorem sA_self (S : MS) (k : Nat) : sA S k (mA S k) = S := by
  show (S.1, va_up S.2.1 k (S.2.1 k), S.2.2) = S
  rw [va_up_id]
theorem sI_self (S : MS) (k : Nat) : sI S k (mI S k) = S := by
  show (va_up S.1 k (S.1 k), S.2.1, S.2.2) = S
  rw [va_up_id]
theorem sL_self (S : MS) : sL S (mL S) = S := rfl
theorem sA_sA (S : MS) (k : Nat) (f g : Nat → Int32) : sA (sA S k f) k g = sA S k g := by
  show (S.1, va_up (va_up S.2.1 k f) k g, S.2.2) = _
  rw [va_up_up]; rfl
theorem sI_sI (S : MS) (k : Nat) (f g : Int32) : sI (sI S k f) k g = sI S k g := by
  show (va_up (va_up S.1 k f) k g, S.2.1, S.2.2) = _
  rw [va_up_up]; rfl
theorem sA_comm (S : MS) {j k : Nat} (h : j ≠ k) (f g : Nat → Int32) : sA (sA S j f) k g = sA (sA S k g) j f := by
  show (S.1, va_up (va_up S.2.1 j f) k g, S.2.2) = _
  rw [va_up_comm _ h]; rfl
theorem sI_comm (S : MS) {j k : Nat} (h : j ≠ k) (f g : Int32) : sI (sI S j f) k g = sI (sI S k g) j f := by
  show (va_up (va_up S.1 j f) k g, S.2.1, S.2.2) = _
  rw [va_up_comm _ h]; rfl
theorem sI_sA (S : MS) (j k : Nat) (f : Nat → Int32) (v : Int32) : sI (sA S j f) k v = sA (sI S k v) j f := rfl
theorem sL_sA (S : MS) (j : Nat) (f : Nat → Int32) (v : Nat → Int64) : sL (sA S j f) v = sA (sL S v) j f := rfl
theorem sL_sI (S : MS) (j : Nat) (f : Int32) (v : Nat → Int64) : sL (sI S j f) v = sI (sL S v) j f := rfl
theorem sL_sL (S : MS) (f g : Nat → Int64) : sL (sL S f) g = sL S g := rfl
theorem MS.ext {S T : MS} (h1 : ∀ k, mI S k = mI T k) (h2 : ∀ k, mA S k = mA T k) (h3 : mL S = mL T) : S = T := by
  obtain ⟨a, b, c⟩ := S
  obtain ⟨a2, b2, c2⟩ := T
  have e1 : a = a2 := funext h1
  have e2 : b = b2 := funext h2
  have e3 : c = c2 := h3
  subst e1; subst e2; subst e3; rfl
/-- the reference: its object (class 5 of vwCl) and its rows -/
def mF (a : Nat → Nat) (S : MS) : List Value := [.ref (a 0), .ref (a 1), .ref (a 2), .ref (a 3), .int (mI S 4), .ref (a 5), .ref (a 6), .ref (a 7), .ref (a 8), .ref (a 9), .int (mI S 10), .int (mI S 11), .ref (a 12), .ref (a 13), .int (mI S 14), .ref (a 15), .ref (a 16), .ref (a 17), .ref (a 18), .int (mI S 19), .ref (a 20), .ref (a 21), .int (mI S 22), .ref (a 23), .int (mI S 24), .ref (a 25), .ref (a 26), .ref (a 27), .ref (a 28), .ref (a 29), .int (mI S 30), .ref (a 31), .ref (a 32)]
def MW (G : TG) (o : Nat) (a : Nat → Nat) (S : MS) : va_W := [(o, .inr (5, mF a S)), (a 0, .inl (gy G 0, 200, .inl (mA S 0))), (a 1, .inl (gy G 0, 200, .inl (mA S 1))), (a 2, .inl (gy G 0, 200, .inl (mA S 2))), (a 3, .inl (gy G 0, 10, .inl (mA S 3))), (a 5, .inl (gy G 0, 4, .inl (mA S 5))), (a 6, .inl (gy G 0, 8, .inl (mA S 6))), (a 7, .inl (gy G 0, 2, .inl (mA S 7))), (a 8, .inl (gy G 1, 20, .inr (.inl (mL S)))), (a 9, .inl (gy G 0, 20, .inl (mA S 9))), (a 12, .inl (gy G 0, 14, .inl (mA S 12))), (a 13, .inl (gy G 0, 20, .inl (mA S 13))), (a 15, .inl (gy G 0, 60, .inl (mA S 15))), (a 16, .inl (gy G 0, 60, .inl (mA S 16))), (a 17, .inl (gy G 0, 60, .inl (mA S 17))), (a 18, .inl (gy G 0, 60, .inl (mA S 18))), (a 20, .inl (gy G 0, 6, .inl (mA S 20))), (a 21, .inl (gy G 0, 6, .inl (mA S 21))), (a 23, .inl (gy G 0, 19, .inl (mA S 23))), (a 25, .inl (gy G 0, 130, .inl (mA S 25))), (a 26, .inl (gy G 2, 600, .inl (mA S 26))), (a 27, .inl (gy G 0, 600, .inl (mA S 27))), (a 28, .inl (gy G 0, 7, .inl (mA S 28))), (a 29, .inl (gy G 0, 64, .inl (mA S 29))), (a 31, .inl (gy G 0, 64, .inl (mA S 31))), (a 32, .inl (gy G 0, 84, .inl (mA S 32)))]
section MWS
variable {G : TG} {o : Nat} {a : Nat → Nat} {S : MS}
theorem mwA0 {f : Nat → Int32} : (MW G o a S).set 1 (a 0, .inl (gy G 0, 200, .inl f)) = MW G o a (sA S 0 f) := rfl
theorem mwA1 {f : Nat → Int32} : (MW G o a S).set 2 (a 1, .inl (gy G 0, 200, .inl f)) = MW G o a (sA S 1 f) := rfl
theorem mwA2 {f : Nat → Int32} : (MW G o a S).set 3 (a 2, .inl (gy G 0, 200, .inl f)) = MW G o a (sA S 2 f) := rfl
theorem mwA3 {f : Nat → Int32} : (MW G o a S).set 4 (a 3, .inl (gy G 0, 10, .inl f)) = MW G o a (sA S 3 f) := rfl
theorem mwI4 {v : Int32} : (MW G o a S).set 0 (o, .inr (5, (mF a S).set 4 (.int v))) = MW G o a (sI S 4 v) := rfl
theorem mwA5 {f : Nat → Int32} : (MW G o a S).set 5 (a 5, .inl (gy G 0, 4, .inl f)) = MW G o a (sA S 5 f) := rfl
theorem mwA6 {f : Nat → Int32} : (MW G o a S).set 6 (a 6, .inl (gy G 0, 8, .inl f)) = MW G o a (sA S 6 f) := rfl
theorem mwA7 {f : Nat → Int32} : (MW G o a S).set 7 (a 7, .inl (gy G 0, 2, .inl f)) = MW G o a (sA S 7 f) := rfl
theorem mwA8 {f : Nat → Int64} : (MW G o a S).set 8 (a 8, .inl (gy G 1, 20, .inr (.inl f))) = MW G o a (sL S f) := rfl
theorem mwA9 {f : Nat → Int32} : (MW G o a S).set 9 (a 9, .inl (gy G 0, 20, .inl f)) = MW G o a (sA S 9 f) := rfl
theorem mwI10 {v : Int32} : (MW G o a S).set 0 (o, .inr (5, (mF a S).set 10 (.int v))) = MW G o a (sI S 10 v) := rfl
theorem mwI11 {v : Int32} : (MW G o a S).set 0 (o, .inr (5, (mF a S).set 11 (.int v))) = MW G o a (sI S 11 v) := rfl
theorem mwA12 {f : Nat → Int32} : (MW G o a S).set 10 (a 12, .inl (gy G 0, 14, .inl f)) = MW G o a (sA S 12 f) := rfl
theorem mwA13 {f : Nat → Int32} : (MW G o a S).set 11 (a 13, .inl (gy G 0, 20, .inl f)) = MW G o a (sA S 13 f) := rfl
theorem mwI14 {v : Int32} : (MW G o a S).set 0 (o, .inr (5, (mF a S).set 14 (.int v))) = MW G o a (sI S 14 v) := rfl
theorem mwA15 {f : Nat → Int32} : (MW G o a S).set 12 (a 15, .inl (gy G 0, 60, .inl f)) = MW G o a (sA S 15 f) := rfl
theorem mwA16 {f : Nat → Int32} : (MW G o a S).set 13 (a 16, .inl (gy G 0, 60, .inl f)) = MW G o a (sA S 16 f) := rfl
theorem mwA17 {f : Nat → Int32} : (MW G o a S).set 14 (a 17, .inl (gy G 0, 60, .inl f)) = MW G o a (sA S 17 f) := rfl
theorem mwA18 {f : Nat → Int32} : (MW G o a S).set 15 (a 18, .inl (gy G 0, 60, .inl f)) = MW G o a (sA S 18 f) := rfl
theorem mwI19 {v : Int32} : (MW G o a S).set 0 (o, .inr (5, (mF a S).set 19 (.int v))) = MW G o a (sI S 19 v) := rfl
theorem mwA20 {f : Nat → Int32} : (MW G o a S).set 16 (a 20, .inl (gy G 0, 6, .inl f)) = MW G o a (sA S 20 f) := rfl
theorem mwA21 {f : Nat → Int32} : (MW G o a S).set 17 (a 21, .inl (gy G 0, 6, .inl f)) = MW G o a (sA S 21 f) := rfl
theorem mwI22 {v : Int32} : (MW G o a S).set 0 (o, .inr (5, (mF a S).set 22 (.int v))) = MW G o a (sI S 22 v) := rfl
theorem mwA23 {f : Nat → Int32} : (MW G o a S).set 18 (a 23, .inl (gy G 0, 19, .inl f)) = MW G o a (sA S 23 f) := rfl
theorem mwI24 {v : Int32} : (MW G o a S).set 0 (o, .inr (5, (mF a S).set 24 (.int v))) = MW G o a (sI S 24 v) := rfl
theorem mwA25 {f : Nat → Int32} : (MW G o a S).set 19 (a 25, .inl (gy G 0, 130, .inl f)) = MW G o a (sA S 25 f) := rfl
theorem mwA26 {f : Nat → Int32} : (MW G o a S).set 20 (a 26, .inl (gy G 2, 600, .inl f)) = MW G o a (sA S 26 f) := rfl
theorem mwA27 {f : Nat → Int32} : (MW G o a S).set 21 (a 27, .inl (gy G 0, 600, .inl f)) = MW G o a (sA S 27 f) := rfl
theorem mwA28 {f : Nat → Int32} : (MW G o a S).set 22 (a 28, .inl (gy G 0, 7, .inl f)) = MW G o a (sA S 28 f) := rfl
theorem mwA29 {f : Nat → Int32} : (MW G o a S).set 23 (a 29, .inl (gy G 0, 64, .inl f)) = MW G o a (sA S 29 f) := rfl
theorem mwI30 {v : Int32} : (MW G o a S).set 0 (o, .inr (5, (mF a S).set 30 (.int v))) = MW G o a (sI S 30 v) := rfl
theorem mwA31 {f : Nat → Int32} : (MW G o a S).set 24 (a 31, .inl (gy G 0, 64, .inl f)) = MW G o a (sA S 31 f) := rfl
theorem mwA32 {f : Nat → Int32} : (MW G o a S).set 25 (a 32, .inl (gy G 0, 84, .inl f)) = MW G o a (sA S 32 f) := rfl
end MWS
end
section
theorem ykX0_init : CY yX0_init cX0_init 1 none 0 := ⟨kw1_2, kw1_29, by decide, by decide, by decide +kernel⟩
theorem ykX0_perform : CY yX0_perform cX0_perform 5 none 3 := ⟨kw1_2, kw1_238, by decide, by decide, by decide +kernel⟩
theorem cvX0_perform : CV yX0_perform := ⟨kw1_237, kws_4⟩
theorem ykX0_begin : CY yX0_begin cX0_begin 2 none 1 := ⟨kw1_2, kw2_2, by decide, by decide, by decide +kernel⟩
theorem cvX0_begin : CV yX0_begin := ⟨kw2_1, kws_5⟩
theorem ykX0_has : CY yX0_has cX0_has 2 (some .boolean) 1 := ⟨kw1_2, kw2_11, by decide, by decide, by decide +kernel⟩
theorem cvX0_has : CV yX0_has := ⟨kw2_10, kws_7⟩
theorem ykX0_doLine : CY yX0_doLine cX0_doLine 5 (some .int) 2 := ⟨kw1_2, kw2_7, by decide, by decide, by decide +kernel⟩
theorem cvX0_doLine : CV yX0_doLine := ⟨kw2_6, kws_6⟩
theorem ykX0_enterLoop : CY yX0_enterLoop cX0_enterLoop 4 (some .boolean) 3 := ⟨kw1_2, kw2_15, by decide, by decide, by decide +kernel⟩
theorem cvX0_enterLoop : CV yX0_enterLoop := ⟨kw2_14, kws_8⟩
theorem ykX0_isLess : CY yX0_isLess cX0_isLess 4 (some .boolean) 3 := ⟨kw1_2, kw2_19, by decide, by decide, by decide +kernel⟩
theorem cvX0_isLess : CV yX0_isLess := ⟨kw2_18, kws_9⟩
theorem ykX0_goesRound : CY yX0_goesRound cX0_goesRound 4 (some .boolean) 2 := ⟨kw1_2, kw2_23, by decide, by decide, by decide +kernel⟩
theorem cvX0_goesRound : CV yX0_goesRound := ⟨kw2_22, kws_10⟩
theorem ykX0_placeOf : CY yX0_placeOf cX0_placeOf 3 (some .int) 2 := ⟨kw1_2, kw2_27, by decide, by decide, by decide +kernel⟩
theorem cvX0_placeOf : CV yX0_placeOf := ⟨kw2_26, kws_11⟩
theorem ykX0_doShare : CY yX0_doShare cX0_doShare 5 none 3 := ⟨kw1_2, kw2_31, by decide, by decide, by decide +kernel⟩
theorem cvX0_doShare : CV yX0_doShare := ⟨kw2_30, kws_12⟩
theorem ykX0_cellOf : CY yX0_cellOf cX0_cellOf 2 (some .int) 1 := ⟨kw1_2, kw2_39, by decide, by decide, by decide +kernel⟩
theorem cvX0_cellOf : CV yX0_cellOf := ⟨kw2_38, kws_13⟩
theorem ykX0_namesShare : CY yX0_namesShare cX0_namesShare 1 (some .boolean) 0 := ⟨kw1_2, kw2_43, by decide, by decide, by decide +kernel⟩
theorem cvX0_namesShare : CV yX0_namesShare := ⟨kw2_42, kws_14⟩
theorem ykX0_answerTo : CY yX0_answerTo cX0_answerTo 3 (some .int) 2 := ⟨kw1_2, kw2_106, by decide, by decide, by decide +kernel⟩
theorem cvX0_answerTo : CV yX0_answerTo := ⟨kw2_105, kws_18⟩
theorem ykX0_endsWithVariablesOf : CY yX0_endsWithVariablesOf cX0_endsWithVariablesOf 3 (some .boolean) 1 := ⟨kw1_2, kw2_152, by decide, by decide, by decide +kernel⟩
theorem cvX0_endsWithVariablesOf : CV yX0_endsWithVariablesOf := ⟨kw2_151, kws_25⟩
theorem ykX0_endsLike : CY yX0_endsLike cX0_endsLike 3 (some .boolean) 1 := ⟨kw1_2, kw2_148, by decide, by decide, by decide +kernel⟩
theorem cvX0_endsLike : CV yX0_endsLike := ⟨kw2_147, kws_24⟩
theorem ykX1_init : CY yX1_init cX1_init 1 none 0 := ⟨kw1_6, kw1_144, by decide, by decide, by decide +kernel⟩
theorem ykX1_hasLine : CY yX1_hasLine cX1_hasLine 2 (some .boolean) 1 := ⟨kw1_6, kw1_219, by decide, by decide, by decide +kernel⟩
theorem cvX1_hasLine : CV yX1_hasLine := ⟨kw1_218, kws_3⟩
theorem ykX1_isWhole : CY yX1_isWhole cX1_isWhole 1 (some .boolean) 0 := ⟨kw1_6, kw1_207, by decide, by decide, by decide +kernel⟩
theorem cvX1_isWhole : CV yX1_isWhole := ⟨kw1_206, kws_1⟩
theorem ykX1_append : CY yX1_append cX1_append 4 (some .int) 3 := ⟨kw1_6, kw1_211, by decide, by decide, by decide +kernel⟩
theorem cvX1_append : CV yX1_append := ⟨kw1_210, kws_2⟩
theorem ykX2_init : CY yX2_init cX2_init 1 none 0 := ⟨kw1_3, kw1_69, by decide, by decide, by decide +kernel⟩
theorem ykX2_hasAnswered : CY yX2_hasAnswered cX2_hasAnswered 2 (some .boolean) 1 := ⟨kw1_3, kw2_209, by decide, by decide, by decide +kernel⟩
theorem cvX2_hasAnswered : CV yX2_hasAnswered := ⟨kw2_208, kws_28⟩
theorem ykX2_note : CY yX2_note cX2_note 3 (some .int) 2 := ⟨kw1_3, kw2_186, by decide, by decide, by decide +kernel⟩
theorem cvX2_note : CV yX2_note := ⟨kw2_185, kws_26⟩
theorem ykX3_init : CY yX3_init cX3_init 5 none 4 := ⟨kw1_7, kw2_58, by decide, by decide, by decide +kernel⟩
theorem ykX3_knows : CY yX3_knows cX3_knows 2 (some .boolean) 1 := ⟨kw1_7, kw2_99, by decide, by decide, by decide +kernel⟩
theorem cvX3_knows : CV yX3_knows := ⟨kw2_98, kws_17⟩
theorem ykX3_keep : CY yX3_keep cX3_keep 3 none 2 := ⟨kw1_7, kw2_111, by decide, by decide, by decide +kernel⟩
theorem cvX3_keep : CV yX3_keep := ⟨kw2_110, kws_19⟩
theorem ykX4_init : CY yX4_init cX4_init 2 none 0 := ⟨kw1_1, kw1_15, by decide, by decide, by decide +kernel⟩
theorem ykX4_program : CY yX4_program cX4_program 1 (some .int) 0 := ⟨kw1_1, kw1_140, by decide, by decide, by decide +kernel⟩
theorem cvX4_program : CV yX4_program := ⟨kw1_138, kw1_139⟩
theorem ykX4_line : CY yX4_line cX4_line 6 (some .int) 4 := ⟨kw1_1, kw1_187, by decide, by decide, by decide +kernel⟩
theorem cvX4_line : CV yX4_line := ⟨kw1_185, kw1_186⟩
theorem ykX4_about : CY yX4_about cX4_about 5 (some .int) 3 := ⟨kw1_1, kw1_215, by decide, by decide, by decide +kernel⟩
theorem cvX4_about : CV yX4_about := ⟨kw1_213, kw1_214⟩
theorem ykX4_whole : CY yX4_whole cX4_whole 3 (some .int) 1 := ⟨kw1_1, kw1_224, by decide, by decide, by decide +kernel⟩
theorem cvX4_whole : CV yX4_whole := ⟨kw1_222, kw1_223⟩
theorem ykX4_run : CY yX4_run cX4_run 5 (some .int) 3 := ⟨kw1_1, kw1_228, by decide, by decide, by decide +kernel⟩
theorem cvX4_run : CV yX4_run := ⟨kw1_226, kw1_227⟩
theorem ykX4_told : CY yX4_told cX4_told 2 (some .int) 1 := ⟨kw1_1, kw2_35, by decide, by decide, by decide +kernel⟩
theorem cvX4_told : CV yX4_told := ⟨kw2_33, kw2_34⟩
theorem ykX4_done : CY yX4_done cX4_done 2 (some .int) 1 := ⟨kw1_1, kw2_47, by decide, by decide, by decide +kernel⟩
theorem cvX4_done : CV yX4_done := ⟨kw2_45, kw2_46⟩
theorem ykX4_question : CY yX4_question cX4_question 6 (some .int) 4 := ⟨kw1_1, kw2_51, by decide, by decide, by decide +kernel⟩
theorem cvX4_question : CV yX4_question := ⟨kw2_49, kw2_50⟩
theorem ykX4_answer : CY yX4_answer cX4_answer 4 (some .int) 2 := ⟨kw1_1, kw2_87, by decide, by decide, by decide +kernel⟩
theorem cvX4_answer : CV yX4_answer := ⟨kw2_85, kw2_86⟩
theorem ykX4_choices : CY yX4_choices cX4_choices 4 (some .int) 2 := ⟨kw1_1, kw2_115, by decide, by decide, by decide +kernel⟩
theorem cvX4_choices : CV yX4_choices := ⟨kw2_113, kw2_114⟩
theorem ykX4_choice : CY yX4_choice cX4_choice 4 (some .int) 2 := ⟨kw1_1, kw2_130, by decide, by decide, by decide +kernel⟩
theorem cvX4_choice : CV yX4_choice := ⟨kw2_128, kw2_129⟩
theorem ykX4_gap : CY yX4_gap cX4_gap 4 (some .int) 2 := ⟨kw1_1, kw2_134, by decide, by decide, by decide +kernel⟩
theorem cvX4_gap : CV yX4_gap := ⟨kw2_132, kw2_133⟩
theorem ykX4_filling : CY yX4_filling cX4_filling 3 (some .int) 1 := ⟨kw1_1, kw2_163, by decide, by decide, by decide +kernel⟩
theorem cvX4_filling : CV yX4_filling := ⟨kw2_161, kw2_162⟩
theorem ykX4_why : CY yX4_why cX4_why 6 (some .int) 2 := ⟨kw1_1, kw2_170, by decide, by decide, by decide +kernel⟩
theorem cvX4_why : CV yX4_why := ⟨kw2_168, kw2_169⟩
theorem ykX4_same : CY yX4_same cX4_same 6 (some .int) 2 := ⟨kw1_1, kw2_174, by decide, by decide, by decide +kernel⟩
theorem cvX4_same : CV yX4_same := ⟨kw2_172, kw2_173⟩
theorem ykX4_give : CY yX4_give cX4_give 4 (some .int) 3 := ⟨kw1_1, kw2_179, by decide, by decide, by decide +kernel⟩
theorem cvX4_give : CV yX4_give := ⟨kw2_177, kw2_178⟩
theorem ykX4_price : CY yX4_price cX4_price 4 (some .int) 2 := ⟨kw1_1, kw2_191, by decide, by decide, by decide +kernel⟩
theorem cvX4_price : CV yX4_price := ⟨kw2_189, kw2_190⟩
theorem ykX4_cost : CY yX4_cost cX4_cost 3 (some .int) 2 := ⟨kw1_1, kw2_195, by decide, by decide, by decide +kernel⟩
theorem cvX4_cost : CV yX4_cost := ⟨kw2_193, kw2_194⟩
theorem ykX4_sets : CY yX4_sets cX4_sets 2 (some .int) 1 := ⟨kw1_1, kw2_214, by decide, by decide, by decide +kernel⟩
theorem cvX4_sets : CV yX4_sets := ⟨kw2_212, kw2_213⟩
theorem ykX4_set : CY yX4_set cX4_set 4 (some .int) 2 := ⟨kw1_1, kw2_223, by decide, by decide, by decide +kernel⟩
theorem cvX4_set : CV yX4_set := ⟨kw2_221, kw2_222⟩
theorem ykX4_next : CY yX4_next cX4_next 8 (some .int) 1 := ⟨kw1_1, kw2_227, by decide, by decide, by decide +kernel⟩
theorem cvX4_next : CV yX4_next := ⟨kw2_225, kw2_226⟩
theorem ykX4_parting : CY yX4_parting cX4_parting 5 (some .int) 0 := ⟨kw1_1, kw3_2, by decide, by decide, by decide +kernel⟩
theorem cvX4_parting : CV yX4_parting := ⟨kw3_0, kw3_1⟩
theorem ykX4_count : CY yX4_count cX4_count 2 (some .int) 1 := ⟨kw1_1, kw3_18, by decide, by decide, by decide +kernel⟩
theorem cvX4_count : CV yX4_count := ⟨kw3_16, kw3_17⟩
theorem ykX4_programAt : CY yX4_programAt cX4_programAt 2 (some (.object "CodeQuiz$Program")) 1 := ⟨kw1_1, kw1_191, by decide, by decide, by decide +kernel⟩
theorem cvX4_programAt : CV yX4_programAt := ⟨kw1_190, kws_0⟩
theorem ykX4_questionAt : CY yX4_questionAt cX4_questionAt 2 (some (.object "CodeQuiz$Question")) 1 := ⟨kw1_1, kw2_91, by decide, by decide, by decide +kernel⟩
theorem cvX4_questionAt : CV yX4_questionAt := ⟨kw2_90, kws_15⟩
theorem ykX4_isPupil : CY yX4_isPupil cX4_isPupil 1 (some .boolean) 1 := ⟨kw1_1, kw2_182, by decide, by decide, by decide +kernel⟩
theorem ykX4_isInput : CY yX4_isInput cX4_isInput 1 (some .boolean) 1 := ⟨kw1_1, kw1_231, by decide, by decide, by decide +kernel⟩
theorem ykX4_isMachine : CY yX4_isMachine cX4_isMachine 1 (some .boolean) 1 := ⟨kw1_1, kw1_234, by decide, by decide, by decide +kernel⟩
theorem ykX4_isVariable : CY yX4_isVariable cX4_isVariable 1 (some .boolean) 1 := ⟨kw1_1, kw1_197, by decide, by decide, by decide +kernel⟩
theorem ykX4_isCell : CY yX4_isCell cX4_isCell 1 (some .boolean) 1 := ⟨kw1_1, kw1_200, by decide, by decide, by decide +kernel⟩
theorem ykX4_isName : CY yX4_isName cX4_isName 1 (some .boolean) 1 := ⟨kw1_1, kw1_203, by decide, by decide, by decide +kernel⟩
theorem ykX4_fitsOp : CY yX4_fitsOp cX4_fitsOp 3 (some .boolean) 3 := ⟨kw1_1, kw1_194, by decide, by decide, by decide +kernel⟩
theorem ykX4_isAskable : CY yX4_isAskable cX4_isAskable 3 (some .boolean) 3 := ⟨kw1_1, kw2_54, by decide, by decide, by decide +kernel⟩
theorem ykX4_answerBy : CY yX4_answerBy cX4_answerBy 3 (some .int) 2 := ⟨kw1_1, kw2_95, by decide, by decide, by decide +kernel⟩
theorem cvX4_answerBy : CV yX4_answerBy := ⟨kw2_94, kws_16⟩
theorem ykX4_listChoices : CY yX4_listChoices cX4_listChoices 5 (some .int) 1 := ⟨kw1_1, kw2_119, by decide, by decide, by decide +kernel⟩
theorem cvX4_listChoices : CV yX4_listChoices := ⟨kw2_118, kws_20⟩
theorem ykX4_isListed : CY yX4_isListed cX4_isListed 4 (some .boolean) 2 := ⟨kw1_1, kw2_126, by decide, by decide, by decide +kernel⟩
theorem cvX4_isListed : CV yX4_isListed := ⟨kw2_125, kws_21⟩
theorem ykX4_singleMachine : CY yX4_singleMachine cX4_singleMachine 1 (some .int) 1 := ⟨kw1_1, kw2_122, by decide, by decide, by decide +kernel⟩
theorem ykX4_findFillings : CY yX4_findFillings cX4_findFillings 6 (some .long) 2 := ⟨kw1_1, kw2_138, by decide, by decide, by decide +kernel⟩
theorem cvX4_findFillings : CV yX4_findFillings := ⟨kw2_137, kws_22⟩
theorem ykX4_fillingsThatEndAlike : CY yX4_fillingsThatEndAlike cX4_fillingsThatEndAlike 10 (some .long) 4 := ⟨kw1_1, kw2_143, by decide, by decide, by decide +kernel⟩
theorem cvX4_fillingsThatEndAlike : CV yX4_fillingsThatEndAlike := ⟨kw2_142, kws_23⟩
theorem ykX4_costOf : CY yX4_costOf cX4_costOf 5 (some .int) 2 := ⟨kw1_1, kw2_205, by decide, by decide, by decide +kernel⟩
theorem cvX4_costOf : CV yX4_costOf := ⟨kw2_204, kws_27⟩
theorem ykX4_findSets : CY yX4_findSets cX4_findSets 7 (some .long) 1 := ⟨kw1_1, kw2_218, by decide, by decide, by decide +kernel⟩
theorem cvX4_findSets : CV yX4_findSets := ⟨kw2_217, kws_29⟩
theorem ykX4_listSetAnswers : CY yX4_listSetAnswers cX4_listSetAnswers 6 (some .int) 2 := ⟨kw1_1, kw2_231, by decide, by decide, by decide +kernel⟩
theorem cvX4_listSetAnswers : CV yX4_listSetAnswers := ⟨kw2_230, kws_30⟩
theorem ykX4_mostAlike : CY yX4_mostAlike cX4_mostAlike 6 (some .int) 1 := ⟨kw1_1, kw2_235, by decide, by decide, by decide +kernel⟩
theorem cvX4_mostAlike : CV yX4_mostAlike := ⟨kw2_234, kws_31⟩
theorem ykX4_pairsParted : CY yX4_pairsParted cX4_pairsParted 6 (some .int) 1 := ⟨kw1_1, kw3_9, by decide, by decide, by decide +kernel⟩
theorem cvX4_pairsParted : CV yX4_pairsParted := ⟨kw3_8, kws_32⟩
theorem ykX4_partsAll : CY yX4_partsAll cX4_partsAll 4 (some .boolean) 1 := ⟨kw1_1, kw3_13, by decide, by decide, by decide +kernel⟩
theorem cvX4_partsAll : CV yX4_partsAll := ⟨kw3_12, kws_33⟩
theorem ykX4_hasBit : CY yX4_hasBit cX4_hasBit 3 (some .boolean) 2 := ⟨kw1_1, kw2_102, by decide, by decide, by decide +kernel⟩
theorem ykX4_bitAt : CY yX4_bitAt cX4_bitAt 5 (some .int) 2 := ⟨kw1_1, kw2_166, by decide, by decide, by decide +kernel⟩
theorem ykX5_init : CY yX5_init cX5_init 2 none 0 := ⟨kw1_5, kw3_23, by decide, by decide, by decide +kernel⟩
theorem ykX5_within : CY yX5_within cX5_within 3 (some .boolean) 3 := ⟨kw1_5, kw3_143, by decide, by decide, by decide +kernel⟩
theorem ykX5_isProgram : CY yX5_isProgram cX5_isProgram 2 (some .boolean) 1 := ⟨kw1_5, kw3_137, by decide, by decide, by decide +kernel⟩
theorem cvX5_isProgram : CV yX5_isProgram := ⟨kw3_136, kws_34⟩
theorem ykX5_isQuestion : CY yX5_isQuestion cX5_isQuestion 2 (some .boolean) 1 := ⟨kw1_5, kw3_215, by decide, by decide, by decide +kernel⟩
theorem cvX5_isQuestion : CV yX5_isQuestion := ⟨kw3_214, kws_44⟩
theorem ykX5_program : CY yX5_program cX5_program 1 (some .int) 0 := ⟨kw1_5, kw3_129, by decide, by decide, by decide +kernel⟩
theorem cvX5_program : CV yX5_program := ⟨kw3_127, kw3_128⟩
theorem ykX5_mayBe : CY yX5_mayBe cX5_mayBe 4 (some .boolean) 3 := ⟨kw1_5, kw3_140, by decide, by decide, by decide +kernel⟩
theorem ykX5_openAhead : CY yX5_openAhead cX5_openAhead 6 (some .int) 2 := ⟨kw1_5, kw3_147, by decide, by decide, by decide +kernel⟩
theorem cvX5_openAhead : CV yX5_openAhead := ⟨kw3_146, kws_35⟩
theorem ykX5_line : CY yX5_line cX5_line 6 (some .int) 4 := ⟨kw1_5, kw3_133, by decide, by decide, by decide +kernel⟩
theorem cvX5_line : CV yX5_line := ⟨kw3_131, kw3_132⟩
theorem ykX5_about : CY yX5_about cX5_about 5 (some .int) 3 := ⟨kw1_5, kw3_151, by decide, by decide, by decide +kernel⟩
theorem cvX5_about : CV yX5_about := ⟨kw3_149, kw3_150⟩
theorem ykX5_isWhole : CY yX5_isWhole cX5_isWhole 2 (some .boolean) 1 := ⟨kw1_5, kw3_160, by decide, by decide, by decide +kernel⟩
theorem cvX5_isWhole : CV yX5_isWhole := ⟨kw3_159, kws_36⟩
theorem ykX5_whole : CY yX5_whole cX5_whole 2 (some .int) 1 := ⟨kw1_5, kw3_156, by decide, by decide, by decide +kernel⟩
theorem cvX5_whole : CV yX5_whole := ⟨kw3_154, kw3_155⟩
theorem ykX5_endOf : CY yX5_endOf cX5_endOf 6 (some .int) 2 := ⟨kw1_5, kw3_179, by decide, by decide, by decide +kernel⟩
theorem cvX5_endOf : CV yX5_endOf := ⟨kw3_178, kws_39⟩
theorem ykX5_beginOf : CY yX5_beginOf cX5_beginOf 6 (some .int) 2 := ⟨kw1_5, kw3_187, by decide, by decide, by decide +kernel⟩
theorem cvX5_beginOf : CV yX5_beginOf := ⟨kw3_186, kws_41⟩
theorem ykX5_has : CY yX5_has cX5_has 2 (some .boolean) 2 := ⟨kw1_5, kw3_175, by decide, by decide, by decide +kernel⟩
theorem ykX5_runLines : CY yX5_runLines cX5_runLines 7 none 5 := ⟨kw1_5, kw3_168, by decide, by decide, by decide +kernel⟩
theorem cvX5_runLines : CV yX5_runLines := ⟨kw3_167, kws_37⟩
theorem ykX5_doLine : CY yX5_doLine cX5_doLine 8 (some .int) 4 := ⟨kw1_5, kw3_172, by decide, by decide, by decide +kernel⟩
theorem cvX5_doLine : CV yX5_doLine := ⟨kw3_171, kws_38⟩
theorem ykX5_ended : CY yX5_ended cX5_ended 4 (some .int) 2 := ⟨kw1_5, kw3_183, by decide, by decide, by decide +kernel⟩
theorem cvX5_ended : CV yX5_ended := ⟨kw3_182, kws_40⟩
theorem ykX5_rows : CY yX5_rows cX5_rows 8 none 4 := ⟨kw1_5, kw3_191, by decide, by decide, by decide +kernel⟩
theorem cvX5_rows : CV yX5_rows := ⟨kw3_190, kws_42⟩
theorem ykX5_end : CY yX5_end cX5_end 2 (some .int) 1 := ⟨kw1_5, kw3_195, by decide, by decide, by decide +kernel⟩
theorem cvX5_end : CV yX5_end := ⟨kw3_194, kws_43⟩
theorem ykX5_run : CY yX5_run cX5_run 5 (some .int) 3 := ⟨kw1_5, kw3_164, by decide, by decide, by decide +kernel⟩
theorem cvX5_run : CV yX5_run := ⟨kw3_162, kw3_163⟩
theorem ykX5_told : CY yX5_told cX5_told 2 (some .int) 1 := ⟨kw1_5, kw3_199, by decide, by decide, by decide +kernel⟩
theorem cvX5_told : CV yX5_told := ⟨kw3_197, kw3_198⟩
theorem ykX5_done : CY yX5_done cX5_done 2 (some .int) 1 := ⟨kw1_5, kw3_203, by decide, by decide, by decide +kernel⟩
theorem cvX5_done : CV yX5_done := ⟨kw3_201, kw3_202⟩
theorem ykX5_question : CY yX5_question cX5_question 5 (some .int) 4 := ⟨kw1_5, kw3_207, by decide, by decide, by decide +kernel⟩
theorem cvX5_question : CV yX5_question := ⟨kw3_205, kw3_206⟩
theorem ykX5_answerOf : CY yX5_answerOf cX5_answerOf 3 (some .int) 2 := ⟨kw1_5, kw3_219, by decide, by decide, by decide +kernel⟩
theorem cvX5_answerOf : CV yX5_answerOf := ⟨kw3_218, kws_45⟩
theorem ykX5_answer : CY yX5_answer cX5_answer 3 (some .int) 2 := ⟨kw1_5, kw3_211, by decide, by decide, by decide +kernel⟩
theorem cvX5_answer : CV yX5_answer := ⟨kw3_209, kw3_210⟩
theorem ykX5_choices : CY yX5_choices cX5_choices 8 (some .int) 2 := ⟨kw1_5, kw3_223, by decide, by decide, by decide +kernel⟩
theorem cvX5_choices : CV yX5_choices := ⟨kw3_221, kw3_222⟩
theorem ykX5_choice : CY yX5_choice cX5_choice 3 (some .int) 2 := ⟨kw1_5, kw3_227, by decide, by decide, by decide +kernel⟩
theorem cvX5_choice : CV yX5_choice := ⟨kw3_225, kw3_226⟩
theorem ykX5_gap : CY yX5_gap cX5_gap 8 (some .int) 2 := ⟨kw1_5, kw3_231, by decide, by decide, by decide +kernel⟩
theorem cvX5_gap : CV yX5_gap := ⟨kw3_229, kw3_230⟩
theorem ykX5_filling : CY yX5_filling cX5_filling 2 (some .int) 1 := ⟨kw1_5, kw3_235, by decide, by decide, by decide +kernel⟩
theorem cvX5_filling : CV yX5_filling := ⟨kw3_233, kw3_234⟩
theorem ykX5_why : CY yX5_why cX5_why 5 (some .int) 2 := ⟨kw1_5, kw3_239, by decide, by decide, by decide +kernel⟩
theorem cvX5_why : CV yX5_why := ⟨kw3_237, kw3_238⟩
theorem ykX5_same : CY yX5_same cX5_same 6 (some .int) 2 := ⟨kw1_5, kw4_3, by decide, by decide, by decide +kernel⟩
theorem cvX5_same : CV yX5_same := ⟨kw4_1, kw4_2⟩
theorem ykX5_isPupil : CY yX5_isPupil cX5_isPupil 1 (some .boolean) 1 := ⟨kw1_5, kw4_10, by decide, by decide, by decide +kernel⟩
theorem ykX5_give : CY yX5_give cX5_give 6 (some .int) 3 := ⟨kw1_5, kw4_7, by decide, by decide, by decide +kernel⟩
theorem cvX5_give : CV yX5_give := ⟨kw4_5, kw4_6⟩
theorem ykX5_price : CY yX5_price cX5_price 4 (some .int) 2 := ⟨kw1_5, kw4_14, by decide, by decide, by decide +kernel⟩
theorem cvX5_price : CV yX5_price := ⟨kw4_12, kw4_13⟩
theorem ykX5_bits : CY yX5_bits cX5_bits 3 (some .int) 1 := ⟨kw1_5, kw4_21, by decide, by decide, by decide +kernel⟩
theorem ykX5_costOf : CY yX5_costOf cX5_costOf 6 (some .int) 2 := ⟨kw1_5, kw4_25, by decide, by decide, by decide +kernel⟩
theorem cvX5_costOf : CV yX5_costOf := ⟨kw4_24, kws_46⟩
theorem ykX5_cost : CY yX5_cost cX5_cost 3 (some .int) 2 := ⟨kw1_5, kw4_18, by decide, by decide, by decide +kernel⟩
theorem cvX5_cost : CV yX5_cost := ⟨kw4_16, kw4_17⟩
theorem ykX5_findSets : CY yX5_findSets cX5_findSets 5 none 1 := ⟨kw1_5, kw4_33, by decide, by decide, by decide +kernel⟩
theorem cvX5_findSets : CV yX5_findSets := ⟨kw4_32, kws_47⟩
theorem ykX5_sets : CY yX5_sets cX5_sets 2 (some .int) 1 := ⟨kw1_5, kw4_29, by decide, by decide, by decide +kernel⟩
theorem cvX5_sets : CV yX5_sets := ⟨kw4_27, kw4_28⟩
theorem ykX5_set : CY yX5_set cX5_set 3 (some .int) 2 := ⟨kw1_5, kw4_37, by decide, by decide, by decide +kernel⟩
theorem cvX5_set : CV yX5_set := ⟨kw4_35, kw4_36⟩
theorem ykX5_greatest : CY yX5_greatest cX5_greatest 6 (some .int) 1 := ⟨kw1_5, kw4_45, by decide, by decide, by decide +kernel⟩
theorem cvX5_greatest : CV yX5_greatest := ⟨kw4_44, kws_48⟩
theorem ykX5_next : CY yX5_next cX5_next 6 (some .int) 1 := ⟨kw1_5, kw4_41, by decide, by decide, by decide +kernel⟩
theorem cvX5_next : CV yX5_next := ⟨kw4_39, kw4_40⟩
theorem ykX5_tellApart : CY yX5_tellApart cX5_tellApart 7 (some .boolean) 4 := ⟨kw1_5, kw4_53, by decide, by decide, by decide +kernel⟩
theorem cvX5_tellApart : CV yX5_tellApart := ⟨kw4_52, kws_49⟩
theorem ykX5_parting : CY yX5_parting cX5_parting 8 (some .int) 0 := ⟨kw1_5, kw4_49, by decide, by decide, by decide +kernel⟩
theorem cvX5_parting : CV yX5_parting := ⟨kw4_47, kw4_48⟩
theorem ykX5_count : CY yX5_count cX5_count 4 (some .int) 1 := ⟨kw1_5, kw4_57, by decide, by decide, by decide +kernel⟩
theorem cvX5_count : CV yX5_count := ⟨kw4_55, kw4_56⟩
theorem ykJ6_bitCount_0f7a4 : CY yJ6_bitCount_0f7a4 cJ6_bitCount_0f7a4 1 (some .int) 1 := ⟨kw1_9, kw2_198, by decide, by decide, by decide +kernel⟩
theorem ykJ13_bitCount_95d88 : CY yJ13_bitCount_95d88 cJ13_bitCount_95d88 2 (some .int) 1 := ⟨kw1_8, kw2_156, by decide, by decide, by decide +kernel⟩
theorem ykJ7_fill_53178 : CY yJ7_fill_53178 cJ7_fill_53178 4 none 2 := ⟨kw1_4, kw1_81, by decide, by decide, by decide +kernel⟩
end
section
/-! the reference: small methods -/
def bitsI (m : Int32) : Nat → Int32
  | 0 => 0
  | k + 1 => bitsI m k + ((m >>> (nI k &&& 31)) &&& 1)
/-- how many LOOPs and LESSes are open ahead of line k -/
def oaI (f : Nat → Int32) : Nat → Int32
  | 0 => 0
  | k + 1 => oaI f k + (if f k = 4 ∨ f k = 5 then 1 else if f k = 6 then -1 else 0)
def rmX5_within : Room := { frames := 0, cells := 0, slots := 0, locals := 0 }
set_option maxHeartbeats 4000000 in
set_option maxRecDepth 100000 in
theorem kX5_within (G : TG) (ws : va_W) (v lo hi : Int32) : CT G yX5_within cX5_within 3 (some .boolean) rmX5_within 0 0 [.int (v), .int (lo), .int (hi)] ws (fun _ : Unit => ws) (Ri (fun r _ => r = if v < lo ∨ hi < v then 0 else 1)) := by
  refine CT.enter (by decide) (Nat.le_of_ble_eq_true rfl) (fun X C hnm => ?_)
  refine V.less [(0, .int (v)), (1, .int (lo)), (2, .int (hi))] ⟨rfl, rfl, rfl, trivial⟩ ?_
  refine v_iload_n (pc := 0) C dX5_within_0 rfl ?_
  refine v_iload_n (pc := 1) C dX5_within_1 rfl ?_
  refine v_icmp_lt (pc := 2) (tgt := 14) C dX5_within_2 (by decide) (fun c_2 => ?_) (fun c_2 => ?_)
  · refine v_iconst (pc := 14) (v := 0) C dX5_within_14 (by decide) ?_
    exact v_iret (pc := 15) C dX5_within_15 (rfl) (()) rfl (by simp [c_2])
  · refine v_iload_n (pc := 5) C dX5_within_5 rfl ?_
    refine v_iload_n (pc := 6) C dX5_within_6 rfl ?_
    refine v_icmp_gt (pc := 7) (tgt := 14) C dX5_within_7 (by decide) (fun c_7 => ?_) (fun c_7 => ?_)
    · refine v_iconst (pc := 14) (v := 0) C dX5_within_14 (by decide) ?_
      exact v_iret (pc := 15) C dX5_within_15 (rfl) (()) rfl (by simp [c_2, c_7])
    · refine v_iconst (pc := 10) (v := 1) C dX5_within_10 (by decide) ?_
      refine v_goto (pc := 11) (tgt := 15) C dX5_within_11 (by decide) ?_
      exact v_iret (pc := 15) C dX5_within_15 (rfl) (()) rfl (by simp [c_2, c_7])
def rmX5_isProgram : Room := { frames := 0, cells := 0, slots := 0, locals := 0 }
set_option maxHeartbeats 4000000 in
set_option maxRecDepth 100000 in
theorem kX5_isProgram (G : TG) (o : Nat) (a : Nat → Nat) (S : MS) (p : Int32) : CT G yX5_isProgram cX5_isProgram 2 (some .boolean) rmX5_isProgram 0 0 [.ref (o), .int (p)] (MW G o a S) (fun S : MS => MW G o a S) (Ri (fun r S' => S' = S ∧ r = if p < 0 ∨ mI S 4 ≤ p then 0 else 1)) := by
  refine CT.enter (by decide) (Nat.le_of_ble_eq_true rfl) (fun X C hnm => ?_)
  refine V.less [(0, .ref (o)), (1, .int (p))] ⟨rfl, rfl, trivial⟩ ?_
  refine v_iload_n (pc := 0) C dX5_isProgram_0 rfl ?_
  refine v_if_lt (pc := 1) (tgt := 16) C dX5_isProgram_1 (by decide) (fun c_1 => ?_) (fun c_1 => ?_)
  · refine v_iconst (pc := 16) (v := 0) C dX5_isProgram_16 (by decide) ?_
    exact v_iret (pc := 17) C dX5_isProgram_17 (rfl) (S) rfl (by simp [c_1])
  · refine v_iload_n (pc := 4) C dX5_isProgram_4 rfl ?_
    refine v_aload_n (pc := 5) C dX5_isProgram_5 rfl ?_
    refine v_get (pc := 6) (v := .int (mI S 4)) C inX5 0 rfl rfl 4 (by decide) kw3_29 rfl dX5_isProgram_6 ?_
    refine v_icmp_ge (pc := 9) (tgt := 16) C dX5_isProgram_9 (by decide) (fun c_9 => ?_) (fun c_9 => ?_)
    · refine v_iconst (pc := 16) (v := 0) C dX5_isProgram_16 (by decide) ?_
      exact v_iret (pc := 17) C dX5_isProgram_17 (rfl) (S) rfl (by simp [c_1, c_9])
    · refine v_iconst (pc := 12) (v := 1) C dX5_isProgram_12 (by decide) ?_
      refine v_goto (pc := 13) (tgt := 17) C dX5_isProgram_13 (by decide) ?_
      exact v_iret (pc := 17) C dX5_isProgram_17 (rfl) (S) rfl (by simp [c_1, c_9])
def rmX5_isQuestion : Room := { frames := 0, cells := 0, slots := 0, locals := 0 }
set_option maxHeartbeats 4000000 in
set_option maxRecDepth 100000 in
theorem kX5_isQuestion (G : TG) (o : Nat) (a : Nat → Nat) (S : MS) (p : Int32) : CT G yX5_isQuestion cX5_isQuestion 2 (some .boolean) rmX5_isQuestion 0 0 [.ref (o), .int (p)] (MW G o a S) (fun S : MS => MW G o a S) (Ri (fun r S' => S' = S ∧ r = if p < 0 ∨ mI S 19 ≤ p then 0 else 1)) := by
  refine CT.enter (by decide) (Nat.le_of_ble_eq_true rfl) (fun X C hnm => ?_)
  refine V.less [(0, .ref (o)), (1, .int (p))] ⟨rfl, rfl, trivial⟩ ?_
  refine v_iload_n (pc := 0) C dX5_isQuestion_0 rfl ?_
  refine v_if_lt (pc := 1) (tgt := 16) C dX5_isQuestion_1 (by decide) (fun c_1 => ?_) (fun c_1 => ?_)
  · refine v_iconst (pc := 16) (v := 0) C dX5_isQuestion_16 (by decide) ?_
    exact v_iret (pc := 17) C dX5_isQuestion_17 (rfl) (S) rfl (by simp [c_1])
  · refine v_iload_n (pc := 4) C dX5_isQuestion_4 rfl ?_
    refine v_aload_n (pc := 5) C dX5_isQuestion_5 rfl ?_
    refine v_get (pc := 6) (v := .int (mI S 19)) C inX5 0 rfl rfl 19 (by decide) kw3_44 rfl dX5_isQuestion_6 ?_
    refine v_icmp_ge (pc := 9) (tgt := 16) C dX5_isQuestion_9 (by decide) (fun c_9 => ?_) (fun c_9 => ?_)
    · refine v_iconst (pc := 16) (v := 0) C dX5_isQuestion_16 (by decide) ?_
      exact v_iret (pc := 17) C dX5_isQuestion_17 (rfl) (S) rfl (by simp [c_1, c_9])
    · refine v_iconst (pc := 12) (v := 1) C dX5_isQuestion_12 (by decide) ?_
      refine v_goto (pc := 13) (tgt := 17) C dX5_isQuestion_13 (by decide) ?_
      exact v_iret (pc := 17) C dX5_isQuestion_17 (rfl) (S) rfl (by simp [c_1, c_9])
def rmX5_has : Room := { frames := 0, cells := 0, slots := 0, locals := 0 }
set_option maxHeartbeats 4000000 in
set_option maxRecDepth 100000 in
theorem kX5_has (G : TG) (ws : va_W) (m b : Int32) : CT G yX5_has cX5_has 2 (some .boolean) rmX5_has 0 0 [.int (m), .int (b)] ws (fun _ : Unit => ws) (Ri (fun r _ => r = if m &&& b = 0 then 0 else 1)) := by
  refine CT.enter (by decide) (Nat.le_of_ble_eq_true rfl) (fun X C hnm => ?_)
  refine V.less [(0, .int (m)), (1, .int (b))] ⟨rfl, rfl, trivial⟩ ?_
  refine v_iload_n (pc := 0) C dX5_has_0 rfl ?_
  refine v_iload_n (pc := 1) C dX5_has_1 rfl ?_
  refine v_iand (pc := 2) C dX5_has_2 ?_
  refine v_if_eq (pc := 3) (tgt := 10) C dX5_has_3 (by decide) (fun c_3 => ?_) (fun c_3 => ?_)
  · refine v_iconst (pc := 10) (v := 0) C dX5_has_10 (by decide) ?_
    exact v_iret (pc := 11) C dX5_has_11 (rfl) (()) rfl (by simp [c_3])
  · refine v_iconst (pc := 6) (v := 1) C dX5_has_6 (by decide) ?_
    refine v_goto (pc := 7) (tgt := 11) C dX5_has_7 (by decide) ?_
    exact v_iret (pc := 11) C dX5_has_11 (rfl) (()) rfl (by simp [c_3])
def rmX5_isPupil : Room := { frames := 0, cells := 0, slots := 0, locals := 0 }
set_option maxHeartbeats 4000000 in
set_option maxRecDepth 100000 in
theorem kX5_isPupil (G : TG) (ws : va_W) (p : Int32) : CT G yX5_isPupil cX5_isPupil 1 (some .boolean) rmX5_isPupil 0 0 [.int (p)] ws (fun _ : Unit => ws) (Ri (fun r _ => r = if p < 0 ∨ 10 ≤ p then 0 else 1)) := by
  refine CT.enter (by decide) (Nat.le_of_ble_eq_true rfl) (fun X C hnm => ?_)
  refine V.less [(0, .int (p))] ⟨rfl, trivial⟩ ?_
  refine v_iload_n (pc := 0) C dX5_isPupil_0 rfl ?_
  refine v_if_lt (pc := 1) (tgt := 14) C dX5_isPupil_1 (by decide) (fun c_1 => ?_) (fun c_1 => ?_)
  · refine v_iconst (pc := 14) (v := 0) C dX5_isPupil_14 (by decide) ?_
    exact v_iret (pc := 15) C dX5_isPupil_15 (rfl) (()) rfl (by simp [c_1])
  · refine v_iload_n (pc := 4) C dX5_isPupil_4 rfl ?_
    refine v_bipush (pc := 5) (v := 10) C dX5_isPupil_5 (by decide) ?_
    refine v_icmp_ge (pc := 7) (tgt := 14) C dX5_isPupil_7 (by decide) (fun c_7 => ?_) (fun c_7 => ?_)
    · refine v_iconst (pc := 14) (v := 0) C dX5_isPupil_14 (by decide) ?_
      exact v_iret (pc := 15) C dX5_isPupil_15 (rfl) (()) rfl (by simp [c_1, c_7])
    · refine v_iconst (pc := 10) (v := 1) C dX5_isPupil_10 (by decide) ?_
      refine v_goto (pc := 11) (tgt := 15) C dX5_isPupil_11 (by decide) ?_
      exact v_iret (pc := 15) C dX5_isPupil_15 (rfl) (()) rfl (by simp [c_1, c_7])
def rmX5_bits : Room := { frames := 0, cells := 0, slots := 0, locals := 0 }
set_option maxHeartbeats 4000000 in
set_option maxRecDepth 100000 in
theorem kX5_bits (G : TG) (ws : va_W) (m : Int32) : CT G yX5_bits cX5_bits 3 (some .int) rmX5_bits 0 0 [.int (m)] ws (fun _ : Unit => ws) (Ri (fun r _ => r = bitsI m 6)) := by
  refine CT.enter (by decide) (Nat.le_of_ble_eq_true rfl) (fun X C hnm => ?_)
  refine V.less [(0, .int (m))] ⟨rfl, trivial⟩ ?_
  refine v_iconst (pc := 0) (v := 0) C dX5_bits_0 (by decide) ?_
  refine v_istore_n (pc := 1) C dX5_bits_1 (by decide) ?_
  refine v_iconst (pc := 2) (v := 0) C dX5_bits_2 (by decide) ?_
  refine v_istore_n (pc := 3) C dX5_bits_3 (by decide) ?_
  have L4 : ∀ (fu : Nat) (k : Nat) (n : Int32), (6 < k + fu) → (k ≤ 6) → (n = bitsI m k) → V G X cX5_bits 3 rmX5_bits (QX G X (fun _ : Unit => ws) (Ri (fun r _ => r = bitsI m 6)) 0 0) 0 0 4 (lvo [(0, .int (m)), (1, .int (n)), (2, .int (nI (k)))]) [] ws := by
    intro fu
    induction fu with
    | zero => intro k n hf hk hn; exfalso; omega
    | succ fu ih =>
      intro k n hf hk hn
      refine v_iload_n (pc := 4) C dX5_bits_4 rfl ?_
      refine v_bipush (pc := 5) (v := 6) C dX5_bits_5 (by decide) ?_
      refine v_icmp_geN (pc := 7) (tgt := 24) C (k) 6 rfl rfl (by omega) (by omega) dX5_bits_7 (by decide) (fun c_7 => ?_) (fun c_7 => ?_)
      · refine v_iload_n (pc := 24) C dX5_bits_24 rfl ?_
        exact v_iret (pc := 25) C dX5_bits_25 (rfl) (()) rfl (by rw [hn, show k = 6 by omega])
      · refine v_iload_n (pc := 10) C dX5_bits_10 rfl ?_
        refine v_iload_n (pc := 11) C dX5_bits_11 rfl ?_
        refine v_iload_n (pc := 12) C dX5_bits_12 rfl ?_
        refine v_ishr (pc := 13) C dX5_bits_13 ?_
        refine v_iconst (pc := 14) (v := 1) C dX5_bits_14 (by decide) ?_
        refine v_iand (pc := 15) C dX5_bits_15 ?_
        refine v_iadd (pc := 16) C dX5_bits_16 ?_
        refine v_istore_n (pc := 17) C dX5_bits_17 (by decide) ?_
        refine v_iinc1 (pc := 18) C (k) rfl dX5_bits_18 rfl ?_
        refine v_goto (pc := 21) (tgt := 4) C dX5_bits_21 (by decide) ?_
        exact V.lessE (ih  (((k) + 1)) (((n) + (((m) >>> ((nI (k)) &&& 31)) &&& (1 : Int32)))) (by omega) (by omega) (by rw [hn]; rfl)) ⟨rfl, rfl, rfl, trivial⟩
  exact V.lessE (L4 (7) (0) ((0 : Int32)) (by omega) (by omega) (rfl)) ⟨rfl, rfl, rfl, trivial⟩
def rmX5_openAhead : Room := { frames := 0, cells := 0, slots := 0, locals := 0 }
set_option maxHeartbeats 4000000 in
set_option maxRecDepth 100000 in
theorem kX5_openAhead (G : TG) (o : Nat) (a : Nat → Nat) (S : MS) (p l : Nat) (hp : p < 10) (hl : l ≤ 20) : CT G yX5_openAhead cX5_openAhead 6 (some .int) rmX5_openAhead 0 0 [.ref (o), .int (nI (p)), .int (nI (l))] (MW G o a S) (fun S : MS => MW G o a S) (Ri (fun r S' => S' = S ∧ r = oaI (fun k => mA S 0 (20 * p + k)) l)) := by
  refine CT.enter (by decide) (Nat.le_of_ble_eq_true rfl) (fun X C hnm => ?_)
  refine V.less [(0, .ref (o)), (1, .int (nI (p))), (2, .int (nI (l)))] ⟨rfl, rfl, rfl, trivial⟩ ?_
  refine v_iconst (pc := 0) (v := 0) C dX5_openAhead_0 (by decide) ?_
  refine v_istore_n (pc := 1) C dX5_openAhead_1 (by decide) ?_
  refine v_iconst (pc := 2) (v := 0) C dX5_openAhead_2 (by decide) ?_
  refine v_istore (pc := 3) C dX5_openAhead_3 (by decide) ?_
  have L5 : ∀ (fu : Nat) (k : Nat) (n : Int32), (l < k + fu) → (k ≤ l) → (n = oaI (fun k => mA S 0 (20 * p + k)) k) → V G X cX5_openAhead 6 rmX5_openAhead (QX G X (fun S : MS => MW G o a S) (Ri (fun r S' => S' = S ∧ r = oaI (fun k => mA S 0 (20 * p + k)) l)) 0 0) 0 0 5 (lvo [(0, .ref (o)), (1, .int (nI (p))), (2, .int (nI (l))), (3, .int (n)), (4, .int (nI (k)))]) [] (MW G o a S) := by
    intro fu
    induction fu with
    | zero => intro k n hf hk hn; exfalso; omega
    | succ fu ih =>
      intro k n hf hk hn
      refine v_iload (pc := 5) C dX5_openAhead_5 rfl ?_
      refine v_iload_n (pc := 7) C dX5_openAhead_7 rfl ?_
      refine v_icmp_geN (pc := 8) (tgt := 62) C (k) (l) rfl rfl (by omega) (by omega) dX5_openAhead_8 (by decide) (fun c_8 => ?_) (fun c_8 => ?_)
      · refine v_iload_n (pc := 62) C dX5_openAhead_62 rfl ?_
        exact v_iret (pc := 63) C dX5_openAhead_63 (rfl) (S) rfl (⟨rfl, by rw [hn, show k = l by omega]⟩)
      · refine v_aload_n (pc := 11) C dX5_openAhead_11 rfl ?_
        refine v_get (pc := 12) (v := .ref (a 0)) C inX5 0 rfl rfl 0 (by decide) kw3_25 rfl dX5_openAhead_12 ?_
        refine v_bipush (pc := 15) (v := 20) C dX5_openAhead_15 (by decide) ?_
        refine v_iload_n (pc := 17) C dX5_openAhead_17 rfl ?_
        refine v_imulN (pc := 18) C 20 (p) rfl rfl dX5_openAhead_18 ?_
        refine v_iload (pc := 19) C dX5_openAhead_19 rfl ?_
        refine v_iaddN (pc := 21) C (20 * (p)) (k) rfl rfl dX5_openAhead_21 ?_
        refine v_ialdN (pc := 22) (i := ((20 * (p)) + (k))) (f := (mA S 0)) C 1 rfl (by omega) (by decide) dX5_openAhead_22 ?_
        refine v_nm (fun w e_w => ?_)
        refine v_istore (pc := 23) C dX5_openAhead_23 (by decide) ?_
        refine v_iload_n (pc := 25) C dX5_openAhead_25 rfl ?_
        have J54 : ∀ (dl : Int32), (dl = if mA S 0 (20 * p + k) = 4 ∨ mA S 0 (20 * p + k) = 5 then 1 else if mA S 0 (20 * p + k) = 6 then -1 else 0) → V G X cX5_openAhead 6 rmX5_openAhead (QX G X (fun S : MS => MW G o a S) (Ri (fun r S' => S' = S ∧ r = oaI (fun k => mA S 0 (20 * p + k)) l)) 0 0) 0 0 54 (lvo [(0, .ref (o)), (1, .int (nI (p))), (2, .int (nI (l))), (3, .int (n)), (4, .int (nI (k))), (5, .int (w))]) [.int (dl), .int (n)] (MW G o a S) := by
          intro dl hd
          refine v_iadd (pc := 54) C dX5_openAhead_54 ?_
          refine v_istore_n (pc := 55) C dX5_openAhead_55 (by decide) ?_
          refine v_iinc1 (pc := 56) C (k) rfl dX5_openAhead_56 rfl ?_
          refine v_goto (pc := 59) (tgt := 5) C dX5_openAhead_59 (by decide) ?_
          exact V.lessE (ih  (((k) + 1)) (((n) + (dl))) (by omega) (by omega) (by rw [hn, hd]; rfl)) ⟨rfl, rfl, rfl, rfl, rfl, trivial⟩
        refine v_iload (pc := 26) C dX5_openAhead_26 rfl ?_
        refine v_iconst (pc := 28) (v := 4) C dX5_openAhead_28 (by decide) ?_
        refine v_icmp_eq (pc := 29) (tgt := 38) C dX5_openAhead_29 (by decide) (fun c_29 => ?_) (fun c_29 => ?_)
        · refine v_iconst (pc := 38) (v := 1) C dX5_openAhead_38 (by decide) ?_
          refine v_goto (pc := 39) (tgt := 54) C dX5_openAhead_39 (by decide) ?_
          exact V.lessE (J54  ((1 : Int32)) (by rw [← e_w]; simp [c_29])) ⟨rfl, rfl, rfl, rfl, rfl, rfl, trivial⟩
        · refine v_iload (pc := 32) C dX5_openAhead_32 rfl ?_
          refine v_iconst (pc := 34) (v := 5) C dX5_openAhead_34 (by decide) ?_
          refine v_icmp_ne (pc := 35) (tgt := 42) C dX5_openAhead_35 (by decide) (fun c_35 => ?_) (fun c_35 => ?_)
          · refine v_iload (pc := 42) C dX5_openAhead_42 rfl ?_
            refine v_bipush (pc := 44) (v := 6) C dX5_openAhead_44 (by decide) ?_
            refine v_icmp_ne (pc := 46) (tgt := 53) C dX5_openAhead_46 (by decide) (fun c_46 => ?_) (fun c_46 => ?_)
            · refine v_iconst (pc := 53) (v := 0) C dX5_openAhead_53 (by decide) ?_
              exact V.lessE (J54  ((0 : Int32)) (by rw [← e_w]; simp [c_29, c_35, c_46])) ⟨rfl, rfl, rfl, rfl, rfl, rfl, trivial⟩
            · refine v_iconst (pc := 49) (v := (-1)) C dX5_openAhead_49 (by decide) ?_
              refine v_goto (pc := 50) (tgt := 54) C dX5_openAhead_50 (by decide) ?_
              exact V.lessE (J54  ((-1 : Int32)) (by rw [← e_w]; simp [c_29, c_35, c_46])) ⟨rfl, rfl, rfl, rfl, rfl, rfl, trivial⟩
          · refine v_iconst (pc := 38) (v := 1) C dX5_openAhead_38 (by decide) ?_
            refine v_goto (pc := 39) (tgt := 54) C dX5_openAhead_39 (by decide) ?_
            exact V.lessE (J54  ((1 : Int32)) (by rw [← e_w]; simp [c_29, c_35])) ⟨rfl, rfl, rfl, rfl, rfl, rfl, trivial⟩
  exact V.lessE (L5 (l + 1) (0) ((0 : Int32)) (by omega) (by omega) (rfl)) ⟨rfl, rfl, rfl, rfl, rfl, trivial⟩
end
section
/-! what a run is: depths, mates, one step, the whole run -/
def tn (x : Int32) : Nat := x.toNatClampNeg
theorem tn_nI {n : Nat} (h : n < 2 ^ 31) : tn (nI n) = n := nI_clamp h
/-- how many LOOPs and LESSes are open ahead of line k -/
def dp (f : Nat → Int32) : Nat → Nat
  | 0 => 0
  | k + 1 => if f k = 4 ∨ f k = 5 then dp f k + 1 else if f k = 6 then dp f k - 1 else dp f k
def wfd (f : Nat → Int32) (n : Nat) : Prop := ∀ k, k < n → f k = 6 → 0 < dp f k
theorem dp_le (f : Nat → Int32) : ∀ k, dp f k ≤ k
  | 0 => Nat.le_refl 0
  | k + 1 => by
    have ih := dp_le f k
    unfold dp
    split
    · omega
    · split <;> omega
theorem dp_open {f : Nat → Int32} {k : Nat} (h : f k = 4 ∨ f k = 5) : dp f (k + 1) = dp f k + 1 := by
  conv => lhs; unfold dp
  rw [if_pos h]
theorem dp_end {f : Nat → Int32} {k : Nat} (h : f k = 6) : dp f (k + 1) = dp f k - 1 := by
  conv => lhs; unfold dp
  rw [if_neg (by rw [h]; decide), if_pos h]
theorem dp_else {f : Nat → Int32} {k : Nat} (h : ¬ (f k = 4 ∨ f k = 5)) (h6 : ¬ f k = 6) : dp f (k + 1) = dp f k := by
  conv => lhs; unfold dp
  rw [if_neg h, if_neg h6]
theorem dp_step (f : Nat → Int32) (k : Nat) : ((f k = 4 ∨ f k = 5) ∧ dp f (k + 1) = dp f k + 1) ∨ (f k = 6 ∧ dp f (k + 1) = dp f k - 1) ∨ (¬ (f k = 4 ∨ f k = 5) ∧ ¬ f k = 6 ∧ dp f (k + 1) = dp f k) := by
  by_cases h : f k = 4 ∨ f k = 5
  · exact Or.inl ⟨h, dp_open h⟩
  · by_cases h6 : f k = 6
    · exact Or.inr (Or.inl ⟨h6, dp_end h6⟩)
    · exact Or.inr (Or.inr ⟨h, h6, dp_else h h6⟩)
theorem oaI_dp {f : Nat → Int32} {n : Nat} (hw : wfd f n) : ∀ k, k ≤ n → oaI f k = nI (dp f k) := by
  intro k
  induction k with
  | zero => intro _; rfl
  | succ k ih =>
    intro hk
    have e := ih (by omega)
    unfold oaI
    rw [e]
    by_cases h : f k = 4 ∨ f k = 5
    · rw [if_pos h, dp_open h]; exact nI_1 _
    · rw [if_neg h]
      by_cases h6 : f k = 6
      · rw [if_pos h6, dp_end h6]
        have := hw k (by omega) h6
        obtain ⟨d, hd⟩ : ∃ d, dp f k = d + 1 := ⟨dp f k - 1, by omega⟩
        rw [hd]; exact pk_m1 d
      · rw [if_neg h6, dp_else h h6]; exact Int32.add_zero _
theorem dp_cong {f g : Nat → Int32} : ∀ {n : Nat}, (∀ k, k < n → f k = g k) → ∀ k, k ≤ n → dp f k = dp g k := by
  intro n h k
  induction k with
  | zero => intro _; rfl
  | succ k ih =>
    intro hk
    unfold dp
    rw [ih (by omega), h k (by omega)]
/-- line e is the END of the LOOP or LESS at line i -/
def Mt (f : Nat → Int32) (i e : Nat) : Prop := i < e ∧ (f i = 4 ∨ f i = 5) ∧ f e = 6 ∧ dp f (e + 1) = dp f i ∧ ∀ j, i < j → j ≤ e → dp f i < dp f j
theorem Mt.uniqE {f : Nat → Int32} {i e e2 : Nat} (h : Mt f i e) (h2 : Mt f i e2) : e = e2 := by
  rcases Nat.lt_trichotomy e e2 with q | q | q
  · have := h2.2.2.2.2 (e + 1) (by have := h.1; omega) (by omega)
    have := h.2.2.2.1
    omega
  · exact q
  · have := h.2.2.2.2 (e2 + 1) (by have := h2.1; omega) (by omega)
    have := h2.2.2.2.1
    omega
theorem Mt.uniqI {f : Nat → Int32} {i i2 e : Nat} (h : Mt f i e) (h2 : Mt f i2 e) : i = i2 := by
  have e1 := h.2.2.2.1
  have e2 := h2.2.2.2.1
  rcases Nat.lt_trichotomy i i2 with q | q | q
  · have := h.2.2.2.2 i2 q (Nat.le_of_lt h2.1)
    omega
  · exact q
  · have := h2.2.2.2.2 i q (Nat.le_of_lt h.1)
    omega
theorem Mt.notBoth {f : Nat → Int32} {i j k : Nat} (h : Mt f k i) (h2 : Mt f j k) : False := by
  have a := h.2.1
  have b := h2.2.2.1
  rw [b] at a
  exact absurd a (by decide)
noncomputable def mtf (f : Nat → Int32) (k : Nat) : Nat := Classical.epsilon (fun j => Mt f k j ∨ Mt f j k)
theorem Mt.E {f : Nat → Int32} {i e : Nat} (h : Mt f i e) : mtf f i = e := by
  have := Classical.epsilon_spec (p := fun j => Mt f i j ∨ Mt f j i) ⟨e, Or.inl h⟩
  rcases this with q | q
  · exact q.uniqE h
  · exact (h.notBoth q).elim
theorem Mt.I {f : Nat → Int32} {i e : Nat} (h : Mt f i e) : mtf f e = i := by
  have := Classical.epsilon_spec (p := fun j => Mt f e j ∨ Mt f j e) ⟨i, Or.inr h⟩
  rcases this with q | q
  · exact (q.notBoth h).elim
  · exact q.uniqI h
theorem mt_of_open {f : Nat → Int32} {n i : Nat} (hw : wfd f n) (h0 : dp f n = 0) (hi : i < n) (ho : f i = 4 ∨ f i = 5) : ∃ e, Mt f i e ∧ e < n := by
  obtain ⟨j, ⟨hj1, hj2, hj3⟩, hmin⟩ := pk_least (fun j => i < j ∧ j ≤ n ∧ dp f j ≤ dp f i) ⟨n, hi, Nat.le_refl n, by omega⟩
  have h1 := dp_open ho
  have hj : i + 1 < j := by
    rcases Nat.lt_or_ge (i + 1) j with q | q
    · exact q
    · have : j = i + 1 := by omega
      subst this; omega
  obtain ⟨e, rfl⟩ : ∃ e, j = e + 1 := ⟨j - 1, by omega⟩
  have big : ∀ k, i < k → k ≤ e → dp f i < dp f k := by
    intro k hk1 hk2
    have := hmin k (by omega)
    rcases Nat.lt_or_ge (dp f i) (dp f k) with q | q
    · exact q
    · exact absurd ⟨hk1, by omega, q⟩ this
  have he := big e (by omega) (Nat.le_refl e)
  rcases dp_step f e with ⟨-, q⟩ | ⟨q6, q⟩ | ⟨-, -, q⟩
  · omega
  · exact ⟨e, ⟨by omega, ho, q6, by omega, big⟩, by omega⟩
  · omega
theorem mt_of_end {f : Nat → Int32} {e : Nat} (h6 : f e = 6) (hp : 0 < dp f e) : ∃ i, Mt f i e := by
  have key : ∀ m, m ≤ e → (∀ j, m < j → j ≤ e → dp f e - 1 < dp f j) → ∃ i, i ≤ m ∧ dp f i ≤ dp f e - 1 ∧ ∀ j, i < j → j ≤ e → dp f e - 1 < dp f j := by
    intro m
    induction m with
    | zero => intro _ h; exact ⟨0, Nat.le_refl 0, Nat.zero_le _, h⟩
    | succ m ih =>
      intro hm h
      rcases Nat.lt_or_ge (dp f e - 1) (dp f (m + 1)) with q | q
      · obtain ⟨i, a, b, c⟩ := ih (by omega) (fun j h1 h2 => by
          rcases Nat.lt_or_ge (m + 1) j with z | z
          · exact h j z h2
          · have : j = m + 1 := by omega
            subst this; exact q)
        exact ⟨i, by omega, b, c⟩
      · exact ⟨m + 1, Nat.le_refl _, q, h⟩
  obtain ⟨i, a, b, c⟩ := key e (Nat.le_refl e) (fun j h1 h2 => by omega)
  have hie : i < e := by
    rcases Nat.lt_or_ge i e with q | q
    · exact q
    · have : i = e := by omega
      subst this; omega
  have c1 := c (i + 1) (by omega) (by omega)
  have hd := dp_end h6
  rcases dp_step f i with ⟨qo, q⟩ | ⟨-, q⟩ | ⟨-, -, q⟩
  · exact ⟨i, hie, qo, h6, by omega, fun j h1 h2 => by have := c j h1 h2; omega⟩
  · omega
  · omega
/-- the LOOP at k is under way at line at -/
def act (f : Nat → Int32) (k l : Nat) : Prop := ∃ e, Mt f k e ∧ f k = 4 ∧ k < l ∧ l ≤ e
theorem act_next {f : Nat → Int32} {k l : Nat} (h : act f k (l + 1)) : k = l ∨ act f k l := by
  obtain ⟨e, a, b, c, d⟩ := h
  rcases Nat.lt_or_ge k l with q | q
  · exact Or.inr ⟨e, a, b, q, by omega⟩
  · exact Or.inl (by omega)
theorem act_jump {f : Nat → Int32} {k l e : Nat} (hm : Mt f l e) (h : act f k (e + 1)) : k ≠ l ∧ act f k l := by
  obtain ⟨ek, a, b, c, d⟩ := h
  have h1 := hm.1
  have hk : k ≠ l := fun q => by subst q; have := a.uniqE hm; omega
  refine ⟨hk, ek, a, b, ?_, by omega⟩
  rcases Nat.lt_or_ge k l with q | q
  · exact q
  · have u := hm.2.2.2.2 k (by omega) (by omega)
    have v := a.2.2.2.2 (e + 1) (by omega) d
    have := hm.2.2.2.1
    omega
theorem act_back {f : Nat → Int32} {k b e : Nat} (hm : Mt f b e) (h : act f k (b + 1)) : k = b ∨ act f k e := by
  obtain ⟨ek, a, a4, c, d⟩ := h
  rcases Nat.lt_or_ge k b with q | q
  · refine Or.inr ⟨ek, a, a4, by have := hm.1; omega, ?_⟩
    rcases Nat.lt_or_ge ek e with z | z
    · have u := a.2.2.2.2 b q (by omega)
      have v := hm.2.2.2.2 (ek + 1) (by omega) (by omega)
      have := a.2.2.2.1
      omega
    · exact z
  · exact Or.inl (by omega)
/-- a run's state: line, variables, cells, rows of the names, rounds left -/
abbrev RS : Type := Nat × (Nat → Int32) × (Nat → Int32) × (Nat → Int32) × (Nat → Int64)
/-- four cells, one after the other, from row f to row t -/
def cpk (c : Nat → Int32) (f t : Nat) : Nat → Nat → Int32
  | 0 => c
  | k + 1 => upd (cpk c f t k) (4 * t + k) (cpk c f t k (4 * f + k))
noncomputable def stS (O X Y : Nat → Int32) (mk : Int32) (s : RS) : RS :=
  if O s.1 = 0 then (s.1 + 1, upd s.2.1 (tn (X s.1)) (Y s.1), s.2.2.1, s.2.2.2.1, s.2.2.2.2)
  else if O s.1 = 1 then (s.1 + 1, (if mk &&& 4 = 0 then upd s.2.1 (tn (X s.1)) (s.2.1 (tn (Y s.1))) else upd s.2.1 (tn (Y s.1)) (s.2.1 (tn (X s.1)))), s.2.2.1, s.2.2.2.1, s.2.2.2.2)
  else if O s.1 = 2 then (s.1 + 1, upd s.2.1 (tn (X s.1)) (s.2.1 (tn (X s.1)) + s.2.1 (tn (Y s.1))), s.2.2.1, s.2.2.2.1, s.2.2.2.2)
  else if O s.1 = 3 then (s.1 + 1, upd s.2.1 (tn (X s.1)) (if mk &&& 16 = 0 then s.2.1 (tn (X s.1)) - s.2.1 (tn (Y s.1)) else s.2.1 (tn (Y s.1)) - s.2.1 (tn (X s.1))), s.2.2.1, s.2.2.2.1, s.2.2.2.2)
  else if O s.1 = 4 then ((if 0 < (s.2.1 (tn (X s.1))).toInt64 then s.1 + 1 else mtf O s.1 + 1), s.2.1, s.2.2.1, s.2.2.2.1, vp_updL s.2.2.2.2 s.1 ((s.2.1 (tn (X s.1))).toInt64 + (if 0 < (s.2.1 (tn (X s.1))).toInt64 ∧ ¬ mk &&& 2 = 0 then 1 else 0)))
  else if O s.1 = 5 then ((if s.2.1 (tn (X s.1)) < s.2.1 (tn (Y s.1)) ∨ (¬ mk &&& 8 = 0 ∧ s.2.1 (tn (X s.1)) = s.2.1 (tn (Y s.1))) then s.1 + 1 else mtf O s.1 + 1), s.2.1, s.2.2.1, s.2.2.2.1, s.2.2.2.2)
  else if O s.1 = 6 then (if O (mtf O s.1) = 5 then (s.1 + 1, s.2.1, s.2.2.1, s.2.2.2.1, s.2.2.2.2) else ((if 0 < s.2.2.2.2 (mtf O s.1) - 1 then mtf O s.1 + 1 else s.1 + 1), s.2.1, s.2.2.1, s.2.2.2.1, vp_updL s.2.2.2.2 (mtf O s.1) (s.2.2.2.2 (mtf O s.1) - 1)))
  else if O s.1 = 7 then (s.1 + 1, s.2.1, upd s.2.2.1 (4 * tn (s.2.2.2.1 (tn (X s.1) / 4)) + tn (s.2.1 (tn (X s.1) % 4) &&& 3)) (s.2.1 (tn (Y s.1))), s.2.2.2.1, s.2.2.2.2)
  else if O s.1 = 8 then (s.1 + 1, upd s.2.1 (tn (X s.1)) (s.2.2.1 (4 * tn (s.2.2.2.1 (tn (Y s.1) / 4)) + tn ((s.2.1 (tn (Y s.1) % 4) + (if mk &&& 32 = 0 then 0 else 1)) &&& 3))), s.2.2.1, s.2.2.2.1, s.2.2.2.2)
  else if mk &&& 1 = 0 then (s.1 + 1, s.2.1, s.2.2.1, upd s.2.2.2.1 (tn (X s.1)) (s.2.2.2.1 (tn (Y s.1))), s.2.2.2.2)
  else (s.1 + 1, s.2.1, cpk s.2.2.1 (tn (s.2.2.2.1 (tn (Y s.1)))) (if s.2.2.2.1 0 = s.2.2.2.1 1 then 1 - tn (s.2.2.2.1 (tn (Y s.1))) else tn (s.2.2.2.1 (tn (X s.1)))) 4, upd s.2.2.2.1 (tn (X s.1)) (nI (if s.2.2.2.1 0 = s.2.2.2.1 1 then 1 - tn (s.2.2.2.1 (tn (Y s.1))) else tn (s.2.2.2.1 (tn (X s.1))))), s.2.2.2.2)
/-- n lines, at most fu steps more: how many were done, how often each line, the state -/
noncomputable def rnS (O X Y : Nat → Int32) (n : Nat) (mk : Int32) : Nat → (Nat → Int32) → RS → Nat × (Nat → Int32) × RS
  | 0, t, s => (0, t, s)
  | fu + 1, t, s => if s.1 < n then ((rnS O X Y n mk fu (upd t s.1 (t s.1 + 1)) (stS O X Y mk s)).1 + 1, (rnS O X Y n mk fu (upd t s.1 (t s.1 + 1)) (stS O X Y mk s)).2) else (0, t, s)
def v0 (n : Int32) : Nat → Int32 := fun k => if k = 0 then n else 0
def c0 : Nat → Int32 := fun _ => 0
def r0 : Nat → Int32 := fun k => if k = 1 then 1 else 0
/-- a line as it may be -/
def okl (o x y : Int32) : Prop :=
  (o = 0 ∧ ∃ j, j < 4 ∧ x = nI j) ∨ (o = 1 ∧ (∃ j, j < 4 ∧ x = nI j) ∧ ∃ j, j < 4 ∧ y = nI j) ∨ (o = 2 ∧ (∃ j, j < 4 ∧ x = nI j) ∧ ∃ j, j < 4 ∧ y = nI j) ∨ (o = 3 ∧ (∃ j, j < 4 ∧ x = nI j) ∧ ∃ j, j < 4 ∧ y = nI j) ∨ (o = 4 ∧ ∃ j, j < 4 ∧ x = nI j) ∨ (o = 5 ∧ (∃ j, j < 4 ∧ x = nI j) ∧ ∃ j, j < 4 ∧ y = nI j) ∨ o = 6 ∨ (o = 7 ∧ (∃ j, j < 8 ∧ x = nI j) ∧ ∃ j, j < 4 ∧ y = nI j) ∨ (o = 8 ∧ (∃ j, j < 4 ∧ x = nI j) ∧ ∃ j, j < 8 ∧ y = nI j) ∨ (o = 9 ∧ (∃ j, j < 2 ∧ x = nI j) ∧ ∃ j, j < 2 ∧ y = nI j)
/-- a whole program: n lines, all as they may be, nothing open at the end -/
def okp (O X Y : Nat → Int32) (n : Nat) : Prop := n ≤ 20 ∧ wfd O n ∧ dp O n = 0 ∧ ∀ k, k < n → okl (O k) (X k) (Y k)
def okr (rw : Nat → Int32) : Prop := ∀ k, k < 2 → rw k = nI 0 ∨ rw k = nI 1
end
section
/-! the reference: mates, one line -/
theorem dl_up {f : Nat → Int32} {i m : Nat} (h : dp f i < dp f m) : nI (dp f m - dp f i) + (if f m = 4 ∨ f m = 5 then 1 else if f m = 6 then -1 else 0) = nI (dp f (m + 1) - dp f i) := by
  rcases dp_step f m with ⟨a, b⟩ | ⟨a, b⟩ | ⟨a, a6, b⟩
  · rw [if_pos a, b, nI_1]; congr 1; omega
  · rw [if_neg (by rw [a]; decide), if_pos a, b]
    obtain ⟨x, hx⟩ : ∃ x, dp f m - dp f i = x + 1 := ⟨dp f m - dp f i - 1, by omega⟩
    rw [hx, pk_m1]; congr 1; omega
  · rw [if_neg a, if_neg a6, b]; exact Int32.add_zero _
theorem dl_dn {f : Nat → Int32} {i m : Nat} (hw : f m = 6 → 0 < dp f m) (h : dp f i < dp f (m + 1)) (hm : dp f i ≤ dp f m) : nI (dp f (m + 1) - dp f i) + (if f m = 4 ∨ f m = 5 then -1 else if f m = 6 then 1 else 0) = nI (dp f m - dp f i) := by
  rcases dp_step f m with ⟨a, b⟩ | ⟨a, b⟩ | ⟨a, a6, b⟩
  · rw [if_pos a, b]
    obtain ⟨x, hx⟩ : ∃ x, dp f m + 1 - dp f i = x + 1 := ⟨dp f m - dp f i, by omega⟩
    rw [hx, pk_m1]; congr 1; omega
  · have := hw a
    rw [if_neg (by rw [a]; decide), if_pos a, b, nI_1]; congr 1; omega
  · rw [if_neg a, if_neg a6, b]; exact Int32.add_zero _
theorem lgc_le {x : Int64} : lg_cmp x 0 ≤ 0 ↔ ¬ 0 < x := by
  unfold lg_cmp
  by_cases h : (0 : Int64) < x
  · simp [h]
  · by_cases h2 : x = 0
    · simp [h2]
    · simp [h, h2]
def rmX5_endOf : Room := { frames := 0, cells := 0, slots := 0, locals := 0 }
set_option maxHeartbeats 4000000 in
set_option maxRecDepth 100000 in
theorem kX5_endOf (G : TG) (o : Nat) (a : Nat → Nat) (S : MS) (p i e : Nat) (hp : p < 10) (hm : Mt (fun k => mA S 0 (20 * p + k)) i e) (he : e < 20) : CT G yX5_endOf cX5_endOf 6 (some .int) rmX5_endOf 0 0 [.ref (o), .int (nI (p)), .int (nI (i))] (MW G o a S) (fun S : MS => MW G o a S) (Ri (fun r S' => S' = S ∧ r = nI e)) := by
  refine CT.enter (by decide) (Nat.le_of_ble_eq_true rfl) (fun X C hnm => ?_)
  refine V.less [(0, .ref (o)), (1, .int (nI (p))), (2, .int (nI (i)))] ⟨rfl, rfl, rfl, trivial⟩ ?_
  have hie := hm.1
  refine v_iconst (pc := 0) (v := 1) C dX5_endOf_0 (by decide) ?_
  refine v_istore_n (pc := 1) C dX5_endOf_1 (by decide) ?_
  refine v_iload_n (pc := 2) C dX5_endOf_2 rfl ?_
  refine v_istore (pc := 3) C dX5_endOf_3 (by decide) ?_
  have L5 : ∀ (fu : Nat) (k : Nat) (d : Nat), (e < k + fu) → (i ≤ k) → (k ≤ e) → (d = dp (fun k => mA S 0 (20 * p + k)) (k + 1) - dp (fun k => mA S 0 (20 * p + k)) i) → V G X cX5_endOf 6 rmX5_endOf (QX G X (fun S : MS => MW G o a S) (Ri (fun r S' => S' = S ∧ r = nI e)) 0 0) 0 0 5 (lvo [(0, .ref (o)), (1, .int (nI (p))), (2, .int (nI (i))), (3, .int (nI (d))), (4, .int (nI (k)))]) [] (MW G o a S) := by
    intro fu
    induction fu with
    | zero => intro k d hf hk1 hk2 hd; exfalso; omega
    | succ fu ih =>
      intro k d hf hk1 hk2 hd
      have hdk := dp_le (fun k => mA S 0 (20 * p + k)) (k + 1)
      refine v_iload_n (pc := 5) C dX5_endOf_5 rfl ?_
      refine v_if_leN (pc := 6) (tgt := 60) C (d) rfl (by omega) dX5_endOf_6 (by decide) (fun c_6 => ?_) (fun c_6 => ?_)
      · have hkx : k = e := by
          rcases Nat.lt_or_ge k e with q | q
          · have := hm.2.2.2.2 (k + 1) (by omega) (by omega); omega
          · omega
        refine v_iload (pc := 60) C dX5_endOf_60 rfl ?_
        exact v_iret (pc := 62) C dX5_endOf_62 (rfl) (S) rfl (⟨rfl, by rw [hkx]⟩)
      · have hke : k < e := by
          rcases Nat.lt_or_ge k e with q | q
          · exact q
          · have : k = e := by omega
            subst this; have := hm.2.2.2.1; omega
        have hdi := hm.2.2.2.2 (k + 1) (by omega) (by omega)
        refine v_iinc1 (pc := 9) C (k) rfl dX5_endOf_9 rfl ?_
        refine v_aload_n (pc := 12) C dX5_endOf_12 rfl ?_
        refine v_get (pc := 13) (v := .ref (a 0)) C inX5 0 rfl rfl 0 (by decide) kw3_25 rfl dX5_endOf_13 ?_
        refine v_bipush (pc := 16) (v := 20) C dX5_endOf_16 (by decide) ?_
        refine v_iload_n (pc := 18) C dX5_endOf_18 rfl ?_
        refine v_imulN (pc := 19) C 20 (p) rfl rfl dX5_endOf_19 ?_
        refine v_iload (pc := 20) C dX5_endOf_20 rfl ?_
        refine v_iaddN (pc := 22) C (20 * (p)) ((k) + 1) rfl rfl dX5_endOf_22 ?_
        refine v_ialdN (pc := 23) (i := ((20 * (p)) + ((k) + 1))) (f := (mA S 0)) C 1 rfl (by omega) (by decide) dX5_endOf_23 ?_
        refine v_nm (fun w e_w => ?_)
        refine v_istore (pc := 24) C dX5_endOf_24 (by decide) ?_
        refine v_iload_n (pc := 26) C dX5_endOf_26 rfl ?_
        have J55 : ∀ (dl : Int32), (dl = if (fun k => mA S 0 (20 * p + k)) (k + 1) = 4 ∨ (fun k => mA S 0 (20 * p + k)) (k + 1) = 5 then 1 else if (fun k => mA S 0 (20 * p + k)) (k + 1) = 6 then -1 else 0) → V G X cX5_endOf 6 rmX5_endOf (QX G X (fun S : MS => MW G o a S) (Ri (fun r S' => S' = S ∧ r = nI e)) 0 0) 0 0 55 (lvo [(0, .ref (o)), (1, .int (nI (p))), (2, .int (nI (i))), (3, .int (nI (d))), (4, .int (nI ((k) + 1))), (5, .int (w))]) [.int (dl), .int (nI (d))] (MW G o a S) := by
          intro dl hdl
          refine v_iadd (pc := 55) C dX5_endOf_55 ?_
          refine v_cv (y := (nI (dp (fun k => mA S 0 (20 * p + k)) (k + 1 + 1) - dp (fun k => mA S 0 (20 * p + k)) i))) (by rw [hd, hdl]; exact dl_up hdi) ?_
          refine v_istore_n (pc := 56) C dX5_endOf_56 (by decide) ?_
          refine v_goto (pc := 57) (tgt := 5) C dX5_endOf_57 (by decide) ?_
          exact V.lessE (ih  (((k) + 1)) ((dp (fun k => mA S 0 (20 * p + k)) (k + 1 + 1) - dp (fun k => mA S 0 (20 * p + k)) i)) (by omega) (by omega) (by omega) (rfl)) ⟨rfl, rfl, rfl, rfl, rfl, trivial⟩
        refine v_iload (pc := 27) C dX5_endOf_27 rfl ?_
        refine v_iconst (pc := 29) (v := 4) C dX5_endOf_29 (by decide) ?_
        refine v_icmp_eq (pc := 30) (tgt := 39) C dX5_endOf_30 (by decide) (fun c_30 => ?_) (fun c_30 => ?_)
        · refine v_iconst (pc := 39) (v := 1) C dX5_endOf_39 (by decide) ?_
          refine v_goto (pc := 40) (tgt := 55) C dX5_endOf_40 (by decide) ?_
          exact V.lessE (J55  ((1 : Int32)) (by show _ = if mA S 0 (20 * p + (k + 1)) = 4 ∨ mA S 0 (20 * p + (k + 1)) = 5 then _ else if mA S 0 (20 * p + (k + 1)) = 6 then _ else _; rw [← e_w]; simp [c_30])) ⟨rfl, rfl, rfl, rfl, rfl, rfl, trivial⟩
        · refine v_iload (pc := 33) C dX5_endOf_33 rfl ?_
          refine v_iconst (pc := 35) (v := 5) C dX5_endOf_35 (by decide) ?_
          refine v_icmp_ne (pc := 36) (tgt := 43) C dX5_endOf_36 (by decide) (fun c_36 => ?_) (fun c_36 => ?_)
          · refine v_iload (pc := 43) C dX5_endOf_43 rfl ?_
            refine v_bipush (pc := 45) (v := 6) C dX5_endOf_45 (by decide) ?_
            refine v_icmp_ne (pc := 47) (tgt := 54) C dX5_endOf_47 (by decide) (fun c_47 => ?_) (fun c_47 => ?_)
            · refine v_iconst (pc := 54) (v := 0) C dX5_endOf_54 (by decide) ?_
              exact V.lessE (J55  ((0 : Int32)) (by show _ = if mA S 0 (20 * p + (k + 1)) = 4 ∨ mA S 0 (20 * p + (k + 1)) = 5 then _ else if mA S 0 (20 * p + (k + 1)) = 6 then _ else _; rw [← e_w]; simp [c_30, c_36, c_47])) ⟨rfl, rfl, rfl, rfl, rfl, rfl, trivial⟩
            · refine v_iconst (pc := 50) (v := (-1)) C dX5_endOf_50 (by decide) ?_
              refine v_goto (pc := 51) (tgt := 55) C dX5_endOf_51 (by decide) ?_
              exact V.lessE (J55  ((-1 : Int32)) (by show _ = if mA S 0 (20 * p + (k + 1)) = 4 ∨ mA S 0 (20 * p + (k + 1)) = 5 then _ else if mA S 0 (20 * p + (k + 1)) = 6 then _ else _; rw [← e_w]; simp [c_30, c_36, c_47])) ⟨rfl, rfl, rfl, rfl, rfl, rfl, trivial⟩
          · refine v_iconst (pc := 39) (v := 1) C dX5_endOf_39 (by decide) ?_
            refine v_goto (pc := 40) (tgt := 55) C dX5_endOf_40 (by decide) ?_
            exact V.lessE (J55  ((1 : Int32)) (by show _ = if mA S 0 (20 * p + (k + 1)) = 4 ∨ mA S 0 (20 * p + (k + 1)) = 5 then _ else if mA S 0 (20 * p + (k + 1)) = 6 then _ else _; rw [← e_w]; simp [c_30, c_36])) ⟨rfl, rfl, rfl, rfl, rfl, rfl, trivial⟩
  exact V.lessE (L5 (e + 1) ((i)) (1) (by omega) (by omega) (by omega) (by rw [dp_open (f := (fun k => mA S 0 (20 * p + k))) hm.2.1]; omega)) ⟨rfl, rfl, rfl, rfl, rfl, trivial⟩
def rmX5_beginOf : Room := { frames := 0, cells := 0, slots := 0, locals := 0 }
set_option maxHeartbeats 4000000 in
set_option maxRecDepth 100000 in
theorem kX5_beginOf (G : TG) (o : Nat) (a : Nat → Nat) (S : MS) (p i e : Nat) (hp : p < 10) (hm : Mt (fun k => mA S 0 (20 * p + k)) i e) (he : e < 20) (hw : wfd (fun k => mA S 0 (20 * p + k)) (e + 1)) : CT G yX5_beginOf cX5_beginOf 6 (some .int) rmX5_beginOf 0 0 [.ref (o), .int (nI (p)), .int (nI (e))] (MW G o a S) (fun S : MS => MW G o a S) (Ri (fun r S' => S' = S ∧ r = nI i)) := by
  refine CT.enter (by decide) (Nat.le_of_ble_eq_true rfl) (fun X C hnm => ?_)
  refine V.less [(0, .ref (o)), (1, .int (nI (p))), (2, .int (nI (e)))] ⟨rfl, rfl, rfl, trivial⟩ ?_
  have hie := hm.1
  refine v_iconst (pc := 0) (v := 1) C dX5_beginOf_0 (by decide) ?_
  refine v_istore_n (pc := 1) C dX5_beginOf_1 (by decide) ?_
  refine v_iload_n (pc := 2) C dX5_beginOf_2 rfl ?_
  refine v_istore (pc := 3) C dX5_beginOf_3 (by decide) ?_
  have L5 : ∀ (fu : Nat) (k : Nat) (d : Nat), (k < i + fu) → (i ≤ k) → (k ≤ e) → (d = dp (fun k => mA S 0 (20 * p + k)) k - dp (fun k => mA S 0 (20 * p + k)) i) → V G X cX5_beginOf 6 rmX5_beginOf (QX G X (fun S : MS => MW G o a S) (Ri (fun r S' => S' = S ∧ r = nI i)) 0 0) 0 0 5 (lvo [(0, .ref (o)), (1, .int (nI (p))), (2, .int (nI (e))), (3, .int (nI (d))), (4, .int (nI (k)))]) [] (MW G o a S) := by
    intro fu
    induction fu with
    | zero => intro k d hf hk1 hk2 hd; exfalso; omega
    | succ fu ih =>
      intro k d hf hk1 hk2 hd
      have hdk := dp_le (fun k => mA S 0 (20 * p + k)) k
      refine v_iload_n (pc := 5) C dX5_beginOf_5 rfl ?_
      refine v_if_leN (pc := 6) (tgt := 60) C (d) rfl (by omega) dX5_beginOf_6 (by decide) (fun c_6 => ?_) (fun c_6 => ?_)
      · have hkx : k = i := by
          rcases Nat.lt_or_ge i k with q | q
          · have := hm.2.2.2.2 k q (by omega); omega
          · omega
        refine v_iload (pc := 60) C dX5_beginOf_60 rfl ?_
        exact v_iret (pc := 62) C dX5_beginOf_62 (rfl) (S) rfl (⟨rfl, by rw [hkx]⟩)
      · have hke : i < k := by
          rcases Nat.lt_or_ge i k with q | q
          · exact q
          · have : k = i := by omega
            subst this; omega
        have hdi := hm.2.2.2.2 k (by omega) (by omega)
        have hdj : dp (fun k => mA S 0 (20 * p + k)) i ≤ dp (fun k => mA S 0 (20 * p + k)) (k - 1) := by
          rcases Nat.lt_or_ge i (k - 1) with q | q
          · exact Nat.le_of_lt (hm.2.2.2.2 (k - 1) q (by omega))
          · have : k - 1 = i := by omega
            rw [this]; exact Nat.le_refl _
        refine v_iincD (pc := 9) C (k) rfl (by omega) dX5_beginOf_9 rfl ?_
        refine v_aload_n (pc := 12) C dX5_beginOf_12 rfl ?_
        refine v_get (pc := 13) (v := .ref (a 0)) C inX5 0 rfl rfl 0 (by decide) kw3_25 rfl dX5_beginOf_13 ?_
        refine v_bipush (pc := 16) (v := 20) C dX5_beginOf_16 (by decide) ?_
        refine v_iload_n (pc := 18) C dX5_beginOf_18 rfl ?_
        refine v_imulN (pc := 19) C 20 (p) rfl rfl dX5_beginOf_19 ?_
        refine v_iload (pc := 20) C dX5_beginOf_20 rfl ?_
        refine v_iaddN (pc := 22) C (20 * (p)) ((k) - 1) rfl rfl dX5_beginOf_22 ?_
        refine v_ialdN (pc := 23) (i := ((20 * (p)) + ((k) - 1))) (f := (mA S 0)) C 1 rfl (by omega) (by decide) dX5_beginOf_23 ?_
        refine v_nm (fun w e_w => ?_)
        refine v_istore (pc := 24) C dX5_beginOf_24 (by decide) ?_
        refine v_iload_n (pc := 26) C dX5_beginOf_26 rfl ?_
        have J55 : ∀ (dl : Int32), (dl = if (fun k => mA S 0 (20 * p + k)) (k - 1) = 4 ∨ (fun k => mA S 0 (20 * p + k)) (k - 1) = 5 then -1 else if (fun k => mA S 0 (20 * p + k)) (k - 1) = 6 then 1 else 0) → V G X cX5_beginOf 6 rmX5_beginOf (QX G X (fun S : MS => MW G o a S) (Ri (fun r S' => S' = S ∧ r = nI i)) 0 0) 0 0 55 (lvo [(0, .ref (o)), (1, .int (nI (p))), (2, .int (nI (e))), (3, .int (nI (d))), (4, .int (nI ((k) - 1))), (5, .int (w))]) [.int (dl), .int (nI (d))] (MW G o a S) := by
          intro dl hdl
          refine v_iadd (pc := 55) C dX5_beginOf_55 ?_
          refine v_cv (y := (nI (dp (fun k => mA S 0 (20 * p + k)) (k - 1) - dp (fun k => mA S 0 (20 * p + k)) i))) (by rw [hd, hdl]; have := dl_dn (f := (fun k => mA S 0 (20 * p + k))) (i := i) (m := k - 1) (fun h6 => hw (k - 1) (by omega) h6) (by rw [show k - 1 + 1 = k by omega]; exact hdi) hdj; rw [show k - 1 + 1 = k by omega] at this; exact this) ?_
          refine v_istore_n (pc := 56) C dX5_beginOf_56 (by decide) ?_
          refine v_goto (pc := 57) (tgt := 5) C dX5_beginOf_57 (by decide) ?_
          exact V.lessE (ih  (((k) - 1)) ((dp (fun k => mA S 0 (20 * p + k)) (k - 1) - dp (fun k => mA S 0 (20 * p + k)) i)) (by omega) (by omega) (by omega) (rfl)) ⟨rfl, rfl, rfl, rfl, rfl, trivial⟩
        refine v_iload (pc := 27) C dX5_beginOf_27 rfl ?_
        refine v_iconst (pc := 29) (v := 4) C dX5_beginOf_29 (by decide) ?_
        refine v_icmp_eq (pc := 30) (tgt := 39) C dX5_beginOf_30 (by decide) (fun c_30 => ?_) (fun c_30 => ?_)
        · refine v_iconst (pc := 39) (v := (-1)) C dX5_beginOf_39 (by decide) ?_
          refine v_goto (pc := 40) (tgt := 55) C dX5_beginOf_40 (by decide) ?_
          exact V.lessE (J55  ((-1 : Int32)) (by show _ = if mA S 0 (20 * p + (k - 1)) = 4 ∨ mA S 0 (20 * p + (k - 1)) = 5 then _ else if mA S 0 (20 * p + (k - 1)) = 6 then _ else _; rw [← e_w]; simp [c_30])) ⟨rfl, rfl, rfl, rfl, rfl, rfl, trivial⟩
        · refine v_iload (pc := 33) C dX5_beginOf_33 rfl ?_
          refine v_iconst (pc := 35) (v := 5) C dX5_beginOf_35 (by decide) ?_
          refine v_icmp_ne (pc := 36) (tgt := 43) C dX5_beginOf_36 (by decide) (fun c_36 => ?_) (fun c_36 => ?_)
          · refine v_iload (pc := 43) C dX5_beginOf_43 rfl ?_
            refine v_bipush (pc := 45) (v := 6) C dX5_beginOf_45 (by decide) ?_
            refine v_icmp_ne (pc := 47) (tgt := 54) C dX5_beginOf_47 (by decide) (fun c_47 => ?_) (fun c_47 => ?_)
            · refine v_iconst (pc := 54) (v := 0) C dX5_beginOf_54 (by decide) ?_
              exact V.lessE (J55  ((0 : Int32)) (by show _ = if mA S 0 (20 * p + (k - 1)) = 4 ∨ mA S 0 (20 * p + (k - 1)) = 5 then _ else if mA S 0 (20 * p + (k - 1)) = 6 then _ else _; rw [← e_w]; simp [c_30, c_36, c_47])) ⟨rfl, rfl, rfl, rfl, rfl, rfl, trivial⟩
            · refine v_iconst (pc := 50) (v := 1) C dX5_beginOf_50 (by decide) ?_
              refine v_goto (pc := 51) (tgt := 55) C dX5_beginOf_51 (by decide) ?_
              exact V.lessE (J55  ((1 : Int32)) (by show _ = if mA S 0 (20 * p + (k - 1)) = 4 ∨ mA S 0 (20 * p + (k - 1)) = 5 then _ else if mA S 0 (20 * p + (k - 1)) = 6 then _ else _; rw [← e_w]; simp [c_30, c_36, c_47])) ⟨rfl, rfl, rfl, rfl, rfl, rfl, trivial⟩
          · refine v_iconst (pc := 39) (v := (-1)) C dX5_beginOf_39 (by decide) ?_
            refine v_goto (pc := 40) (tgt := 55) C dX5_beginOf_40 (by decide) ?_
            exact V.lessE (J55  ((-1 : Int32)) (by show _ = if mA S 0 (20 * p + (k - 1)) = 4 ∨ mA S 0 (20 * p + (k - 1)) = 5 then _ else if mA S 0 (20 * p + (k - 1)) = 6 then _ else _; rw [← e_w]; simp [c_30, c_36])) ⟨rfl, rfl, rfl, rfl, rfl, rfl, trivial⟩
  exact V.lessE (L5 (e + 1) ((e)) (1) (by omega) (by omega) (by omega) (by have := dp_end (f := (fun k => mA S 0 (20 * p + k))) hm.2.2.1; have := hm.2.2.2.1; have := hm.2.2.2.2 e (by omega) (by omega); omega)) ⟨rfl, rfl, rfl, rfl, rfl, trivial⟩
def rmX5_ended : Room := { frames := 1, cells := 0, slots := 0, locals := 25 }
set_option maxHeartbeats 4000000 in
set_option maxRecDepth 100000 in
theorem kX5_ended (G : TG) (o : Nat) (a : Nat → Nat) (S : MS) (p b e : Nat) (hp : p < 10) (hm : Mt (fun k => mA S 0 (20 * p + k)) b e) (he : e < 20) (hw : wfd (fun k => mA S 0 (20 * p + k)) (e + 1)) : CT G yX5_ended cX5_ended 4 (some .int) rmX5_ended 0 0 [.ref (o), .int (nI (p)), .int (nI (e))] (MW G o a S) (fun S : MS => MW G o a S) (Ri (fun r S' => (mA S 0 (20 * p + b) = 5 → r = nI (e + 1) ∧ S' = S) ∧ (¬ mA S 0 (20 * p + b) = 5 → r = nI (if 0 < mL S b - 1 then b + 1 else e + 1) ∧ S' = sL S (vp_updL (mL S) b (mL S b - 1))))) := by
  refine CT.enter (by decide) (Nat.le_of_ble_eq_true rfl) (fun X C hnm => ?_)
  refine V.less [(0, .ref (o)), (1, .int (nI (p))), (2, .int (nI (e)))] ⟨rfl, rfl, rfl, trivial⟩ ?_
  have hbe := hm.1
  refine v_aload_n (pc := 0) C dX5_ended_0 rfl ?_
  refine v_iload_n (pc := 1) C dX5_ended_1 rfl ?_
  refine v_iload_n (pc := 2) C dX5_ended_2 rfl ?_
  refine v_callV0 (pc := 3) (st := []) (q0 := 0) C (kX5_beginOf G o a S p b e hp hm he hw) ykX5_beginOf cvX5_beginOf kw3_184 dX5_ended_3 rfl rfl rfl rfl rfl (by decide) (Nat.le_of_ble_eq_true rfl) (by decide) rfl (Ri_kk (fun r_3 u_3 h_3 => ?_))
  obtain ⟨rfl, rfl⟩ := h_3
  refine v_istore_n (pc := 6) C dX5_ended_6 (by decide) ?_
  refine v_aload_n (pc := 7) C dX5_ended_7 rfl ?_
  refine v_get (pc := 8) (v := .ref (a 0)) C inX5 0 rfl rfl 0 (by decide) kw3_25 rfl dX5_ended_8 ?_
  refine v_bipush (pc := 11) (v := 20) C dX5_ended_11 (by decide) ?_
  refine v_iload_n (pc := 13) C dX5_ended_13 rfl ?_
  refine v_imulN (pc := 14) C 20 (p) rfl rfl dX5_ended_14 ?_
  refine v_iload_n (pc := 15) C dX5_ended_15 rfl ?_
  refine v_iaddN (pc := 16) C (20 * (p)) (b) rfl rfl dX5_ended_16 ?_
  refine v_ialdN (pc := 17) (i := ((20 * (p)) + (b))) (f := (mA u_3 0)) C 1 rfl (by omega) (by decide) dX5_ended_17 ?_
  refine v_iconst (pc := 18) (v := 5) C dX5_ended_18 (by decide) ?_
  refine v_icmp_ne (pc := 19) (tgt := 26) C dX5_ended_19 (by decide) (fun c_19 => ?_) (fun c_19 => ?_)
  · refine v_aload_n (pc := 26) C dX5_ended_26 rfl ?_
    refine v_get (pc := 27) (v := .ref (a 8)) C inX5 0 rfl rfl 8 (by decide) kw3_33 rfl dX5_ended_27 ?_
    refine v_iload_n (pc := 30) C dX5_ended_30 rfl ?_
    refine v_dup2_11 (pc := 31) C dX5_ended_31 rfl rfl ?_
    refine v_laldN (pc := 32) (i := (b)) (f := (mL u_3)) C 8 rfl (by omega) (by decide) dX5_ended_32 ?_
    refine v_lconst (pc := 33) (v := 1) C dX5_ended_33 (by decide) ?_
    refine v_lsub (pc := 34) C dX5_ended_34 ?_
    refine v_lastN (pc := 35) (i := (b)) (f := (mL u_3)) C 8 rfl (by omega) (by decide) dX5_ended_35 (ws' := (MW G o a (sL u_3 (vp_updL ((mL u_3)) (b) (((mL u_3) (b)) - ((1 : Int64))))))) rfl ?_
    refine v_aload_n (pc := 36) C dX5_ended_36 rfl ?_
    refine v_get (pc := 37) (v := .ref (a 8)) C inX5 0 rfl rfl 8 (by decide) kw3_33 rfl dX5_ended_37 ?_
    refine v_iload_n (pc := 40) C dX5_ended_40 rfl ?_
    refine v_laldN (pc := 41) (i := (b)) (f := (vp_updL ((mL u_3)) (b) (((mL u_3) (b)) - ((1 : Int64))))) C 8 rfl (by omega) (by decide) dX5_ended_41 ?_
    refine v_lconst (pc := 42) (v := 0) C dX5_ended_42 (by decide) ?_
    refine v_lcmp (pc := 43) C dX5_ended_43 ?_
    refine v_if_le (pc := 44) (tgt := 53) C dX5_ended_44 (by decide) (fun c_44 => ?_) (fun c_44 => ?_)
    · refine v_iload_n (pc := 53) C dX5_ended_53 rfl ?_
      refine v_iconst (pc := 54) (v := 1) C dX5_ended_54 (by decide) ?_
      refine v_iaddN (pc := 55) C (e) 1 rfl rfl dX5_ended_55 ?_
      exact v_iret (pc := 56) C dX5_ended_56 (rfl) ((sL u_3 (vp_updL ((mL u_3)) (b) (((mL u_3) (b)) - ((1 : Int64)))))) rfl (⟨fun q => absurd q c_19, fun _ => ⟨by rw [if_neg (lgc_le.mp (by simpa [mL, sL, vp_updL] using c_44))], rfl⟩⟩)
    · refine v_iload_n (pc := 47) C dX5_ended_47 rfl ?_
      refine v_iconst (pc := 48) (v := 1) C dX5_ended_48 (by decide) ?_
      refine v_iaddN (pc := 49) C (b) 1 rfl rfl dX5_ended_49 ?_
      refine v_goto (pc := 50) (tgt := 56) C dX5_ended_50 (by decide) ?_
      exact v_iret (pc := 56) C dX5_ended_56 (rfl) ((sL u_3 (vp_updL ((mL u_3)) (b) (((mL u_3) (b)) - ((1 : Int64)))))) rfl (⟨fun q => absurd q c_19, fun _ => ⟨by rw [if_pos (Classical.byContradiction (fun q => c_44 (lgc_le.mpr (by simpa [mL, sL, vp_updL] using q))))], rfl⟩⟩)
  · refine v_iload_n (pc := 22) C dX5_ended_22 rfl ?_
    refine v_iconst (pc := 23) (v := 1) C dX5_ended_23 (by decide) ?_
    refine v_iaddN (pc := 24) C (e) 1 rfl rfl dX5_ended_24 ?_
    exact v_iret (pc := 25) C dX5_ended_25 (rfl) (u_3) rfl (⟨fun _ => ⟨rfl, rfl⟩, fun q => absurd c_19 q⟩)
end
section
/-! the reference: PUT, GET, SHARE and one line -/
theorem okr_at {rw : Nat → Int32} (h : okr rw) {k : Nat} (hk : k < 2) : ∃ j, j < 2 ∧ rw k = nI j ∧ tn (rw k) = j := by
  rcases h k hk with q | q
  · exact ⟨0, by omega, q, by rw [q]; exact tn_nI (by omega)⟩
  · exact ⟨1, by omega, q, by rw [q]; exact tn_nI (by omega)⟩
theorem and3_at (x : Int32) : ∃ j, j < 4 ∧ x &&& 3 = nI j ∧ tn (x &&& 3) = j := by
  obtain ⟨j, h1, h2⟩ := pk_andE x (m := 3) 2 (by decide)
  exact ⟨j, h1, h2, by rw [h2]; exact tn_nI (by omega)⟩
theorem has01 {m b r : Int32} (h : r = if m &&& b = 0 then 0 else 1) : (m &&& b = 0 ∧ r = 0) ∨ (¬ m &&& b = 0 ∧ r = 1) := by
  by_cases q : m &&& b = 0
  · exact Or.inl ⟨q, by rw [h, if_pos q]⟩
  · exact Or.inr ⟨q, by rw [h, if_neg q]⟩
def rmX5_rows : Room := { frames := 1, cells := 0, slots := 0, locals := 21 }
set_option maxHeartbeats 4000000 in
set_option maxRecDepth 100000 in
theorem kX5_rows_7 (G : TG) (o : Nat) (a : Nat → Nat) (S : MS) (x y : Nat) (mk : Int32) (hr : okr (mA S 7)) (hx : x < 8) (hy : y < 4) : CT G yX5_rows cX5_rows 8 none rmX5_rows 0 0 [.ref (o), .int 7, .int (nI (x)), .int (nI (y)), .int (mk)] (MW G o a S) (fun S : MS => MW G o a S) (Rv (fun S' => S' = sA S 6 (upd (mA S 6) (4 * tn (mA S 7 (x / 4)) + tn (mA S 5 (x % 4) &&& 3)) (mA S 5 y)))) := by
  refine CT.enter (by decide) (Nat.le_of_ble_eq_true rfl) (fun X C hnm => ?_)
  refine V.less [(0, .ref (o)), (1, .int 7), (2, .int (nI (x))), (3, .int (nI (y))), (4, .int (mk))] ⟨rfl, rfl, rfl, rfl, rfl, trivial⟩ ?_
  obtain ⟨ρ, hρ, eρ, tρ⟩ := okr_at hr (show x / 4 < 2 by omega)
  obtain ⟨κ, hκ, eκ, tκ⟩ := and3_at (mA S 5 (x % 4))
  refine v_iload_n (pc := 0) C dX5_rows_0 rfl ?_
  refine v_bipush (pc := 1) (v := 7) C dX5_rows_1 (by decide) ?_
  refine v_icmp_ne (pc := 3) (tgt := 41) C dX5_rows_3 (by decide) (fun q => absurd (by decide) q) (fun _ => ?_)
  refine v_aload_n (pc := 6) C dX5_rows_6 rfl ?_
  refine v_get (pc := 7) (v := .ref (a 6)) C inX5 0 rfl rfl 6 (by decide) kw3_31 rfl dX5_rows_7 ?_
  refine v_iconst (pc := 10) (v := 4) C dX5_rows_10 (by decide) ?_
  refine v_aload_n (pc := 11) C dX5_rows_11 rfl ?_
  refine v_get (pc := 12) (v := .ref (a 7)) C inX5 0 rfl rfl 7 (by decide) kw3_32 rfl dX5_rows_12 ?_
  refine v_iload_n (pc := 15) C dX5_rows_15 rfl ?_
  refine v_iconst (pc := 16) (v := 4) C dX5_rows_16 (by decide) ?_
  refine v_idivN (pc := 17) C (x) 4 rfl rfl (by omega) (by omega) (by omega) dX5_rows_17 ?_
  refine v_ialdN (pc := 18) (i := ((x) / 4)) (f := (mA S 7)) C 7 rfl (by omega) (by decide) dX5_rows_18 ?_
  refine v_cv (y := (nI (ρ))) (eρ) ?_
  refine v_imulN (pc := 19) C 4 (ρ) rfl rfl dX5_rows_19 ?_
  refine v_aload_n (pc := 20) C dX5_rows_20 rfl ?_
  refine v_get (pc := 21) (v := .ref (a 5)) C inX5 0 rfl rfl 5 (by decide) kw3_30 rfl dX5_rows_21 ?_
  refine v_iload_n (pc := 24) C dX5_rows_24 rfl ?_
  refine v_iconst (pc := 25) (v := 4) C dX5_rows_25 (by decide) ?_
  refine v_iremN (pc := 26) C (x) 4 rfl rfl (by omega) (by omega) (by omega) dX5_rows_26 ?_
  refine v_ialdN (pc := 27) (i := ((x) % 4)) (f := (mA S 5)) C 5 rfl (by omega) (by decide) dX5_rows_27 ?_
  refine v_iconst (pc := 28) (v := 3) C dX5_rows_28 (by decide) ?_
  refine v_iand (pc := 29) C dX5_rows_29 ?_
  refine v_cv (y := (nI (κ))) (eκ) ?_
  refine v_iaddN (pc := 30) C (4 * (ρ)) (κ) rfl rfl dX5_rows_30 ?_
  refine v_aload_n (pc := 31) C dX5_rows_31 rfl ?_
  refine v_get (pc := 32) (v := .ref (a 5)) C inX5 0 rfl rfl 5 (by decide) kw3_30 rfl dX5_rows_32 ?_
  refine v_iload_n (pc := 35) C dX5_rows_35 rfl ?_
  refine v_ialdN (pc := 36) (i := (y)) (f := (mA S 5)) C 5 rfl (by omega) (by decide) dX5_rows_36 ?_
  refine v_iastN (pc := 37) (i := ((4 * (ρ)) + (κ))) (f := (mA S 6)) C 6 rfl (by omega) (by decide) dX5_rows_37 (ws' := (MW G o a (sA S 6 (upd ((mA S 6)) ((4 * (ρ)) + (κ)) ((mA S 5) (y)))))) rfl ?_
  refine v_goto (pc := 38) (tgt := 211) C dX5_rows_38 (by decide) ?_
  exact v_vret (pc := 211) C dX5_rows_211 ((sA S 6 (upd ((mA S 6)) ((4 * (ρ)) + (κ)) ((mA S 5) (y))))) rfl (by rw [tρ, tκ])
set_option maxHeartbeats 4000000 in
set_option maxRecDepth 100000 in
theorem kX5_rows_8 (G : TG) (o : Nat) (a : Nat → Nat) (S : MS) (x y : Nat) (mk : Int32) (hr : okr (mA S 7)) (hx : x < 4) (hy : y < 8) : CT G yX5_rows cX5_rows 8 none rmX5_rows 0 0 [.ref (o), .int 8, .int (nI (x)), .int (nI (y)), .int (mk)] (MW G o a S) (fun S : MS => MW G o a S) (Rv (fun S' => S' = sA S 5 (upd (mA S 5) x (mA S 6 (4 * tn (mA S 7 (y / 4)) + tn ((mA S 5 (y % 4) + (if mk &&& 32 = 0 then 0 else 1)) &&& 3)))))) := by
  refine CT.enter (by decide) (Nat.le_of_ble_eq_true rfl) (fun X C hnm => ?_)
  refine V.less [(0, .ref (o)), (1, .int 8), (2, .int (nI (x))), (3, .int (nI (y))), (4, .int (mk))] ⟨rfl, rfl, rfl, rfl, rfl, trivial⟩ ?_
  obtain ⟨ρ, hρ, eρ, tρ⟩ := okr_at hr (show y / 4 < 2 by omega)
  obtain ⟨κ, hκ, eκ, tκ⟩ := and3_at (mA S 5 (y % 4) + (if mk &&& 32 = 0 then 0 else 1))
  refine v_iload_n (pc := 0) C dX5_rows_0 rfl ?_
  refine v_bipush (pc := 1) (v := 7) C dX5_rows_1 (by decide) ?_
  refine v_icmp_ne (pc := 3) (tgt := 41) C dX5_rows_3 (by decide) (fun _ => ?_) (fun q => absurd q (by decide))
  refine v_iload_n (pc := 41) C dX5_rows_41 rfl ?_
  refine v_bipush (pc := 42) (v := 8) C dX5_rows_42 (by decide) ?_
  refine v_icmp_ne (pc := 44) (tgt := 102) C dX5_rows_44 (by decide) (fun q => absurd (by decide) q) (fun _ => ?_)
  refine v_aload_n (pc := 47) C dX5_rows_47 rfl ?_
  refine v_get (pc := 48) (v := .ref (a 5)) C inX5 0 rfl rfl 5 (by decide) kw3_30 rfl dX5_rows_48 ?_
  refine v_iload_n (pc := 51) C dX5_rows_51 rfl ?_
  refine v_iconst (pc := 52) (v := 4) C dX5_rows_52 (by decide) ?_
  refine v_iremN (pc := 53) C (y) 4 rfl rfl (by omega) (by omega) (by omega) dX5_rows_53 ?_
  refine v_ialdN (pc := 54) (i := ((y) % 4)) (f := (mA S 5)) C 5 rfl (by omega) (by decide) dX5_rows_54 ?_
  refine v_iload (pc := 55) C dX5_rows_55 rfl ?_
  refine v_bipush (pc := 57) (v := 32) C dX5_rows_57 (by decide) ?_
  refine v_callS0 (pc := 59) (st := [.int ((mA S 5) ((y) % 4))]) C (kX5_has G _ mk 32) ykX5_has kw3_174 kw3_173 dX5_rows_59 rfl rfl rfl (by decide) (Nat.le_of_ble_eq_true rfl) (by decide) rfl (Ri_kk (fun r_59 u_59 h_59 => ?_))
  rcases (has01 h_59) with ⟨q_59, rfl⟩ | ⟨q_59, rfl⟩
  · refine v_if_eqT (pc := 62) (tgt := 69) C (by decide) dX5_rows_62 (by decide) ?_
    refine v_iconst (pc := 69) (v := 0) C dX5_rows_69 (by decide) ?_
    refine v_iadd (pc := 70) C dX5_rows_70 ?_
    refine v_iconst (pc := 71) (v := 3) C dX5_rows_71 (by decide) ?_
    refine v_iand (pc := 72) C dX5_rows_72 ?_
    refine v_cv (y := (nI (κ))) (by rw [if_pos q_59] at eκ; exact eκ) ?_
    refine v_istore (pc := 73) C dX5_rows_73 (by decide) ?_
    refine v_aload_n (pc := 75) C dX5_rows_75 rfl ?_
    refine v_get (pc := 76) (v := .ref (a 5)) C inX5 0 rfl rfl 5 (by decide) kw3_30 rfl dX5_rows_76 ?_
    refine v_iload_n (pc := 79) C dX5_rows_79 rfl ?_
    refine v_aload_n (pc := 80) C dX5_rows_80 rfl ?_
    refine v_get (pc := 81) (v := .ref (a 6)) C inX5 0 rfl rfl 6 (by decide) kw3_31 rfl dX5_rows_81 ?_
    refine v_iconst (pc := 84) (v := 4) C dX5_rows_84 (by decide) ?_
    refine v_aload_n (pc := 85) C dX5_rows_85 rfl ?_
    refine v_get (pc := 86) (v := .ref (a 7)) C inX5 0 rfl rfl 7 (by decide) kw3_32 rfl dX5_rows_86 ?_
    refine v_iload_n (pc := 89) C dX5_rows_89 rfl ?_
    refine v_iconst (pc := 90) (v := 4) C dX5_rows_90 (by decide) ?_
    refine v_idivN (pc := 91) C (y) 4 rfl rfl (by omega) (by omega) (by omega) dX5_rows_91 ?_
    refine v_ialdN (pc := 92) (i := ((y) / 4)) (f := (mA S 7)) C 7 rfl (by omega) (by decide) dX5_rows_92 ?_
    refine v_cv (y := (nI (ρ))) (eρ) ?_
    refine v_imulN (pc := 93) C 4 (ρ) rfl rfl dX5_rows_93 ?_
    refine v_iload (pc := 94) C dX5_rows_94 rfl ?_
    refine v_iaddN (pc := 96) C (4 * (ρ)) (κ) rfl rfl dX5_rows_96 ?_
    refine v_ialdN (pc := 97) (i := ((4 * (ρ)) + (κ))) (f := (mA S 6)) C 6 rfl (by omega) (by decide) dX5_rows_97 ?_
    refine v_iastN (pc := 98) (i := (x)) (f := (mA S 5)) C 5 rfl (by omega) (by decide) dX5_rows_98 (ws' := (MW G o a (sA S 5 (upd ((mA S 5)) (x) ((mA S 6) ((4 * (ρ)) + (κ))))))) rfl ?_
    refine v_goto (pc := 99) (tgt := 211) C dX5_rows_99 (by decide) ?_
    exact v_vret (pc := 211) C dX5_rows_211 ((sA S 5 (upd ((mA S 5)) (x) ((mA S 6) ((4 * (ρ)) + (κ)))))) rfl (by rw [tρ, tκ])
  · refine v_if_eqF (pc := 62) (tgt := 69) C (by decide) dX5_rows_62 (by decide) ?_
    refine v_iconst (pc := 65) (v := 1) C dX5_rows_65 (by decide) ?_
    refine v_goto (pc := 66) (tgt := 70) C dX5_rows_66 (by decide) ?_
    refine v_iadd (pc := 70) C dX5_rows_70 ?_
    refine v_iconst (pc := 71) (v := 3) C dX5_rows_71 (by decide) ?_
    refine v_iand (pc := 72) C dX5_rows_72 ?_
    refine v_cv (y := (nI (κ))) (by rw [if_neg q_59] at eκ; exact eκ) ?_
    refine v_istore (pc := 73) C dX5_rows_73 (by decide) ?_
    refine v_aload_n (pc := 75) C dX5_rows_75 rfl ?_
    refine v_get (pc := 76) (v := .ref (a 5)) C inX5 0 rfl rfl 5 (by decide) kw3_30 rfl dX5_rows_76 ?_
    refine v_iload_n (pc := 79) C dX5_rows_79 rfl ?_
    refine v_aload_n (pc := 80) C dX5_rows_80 rfl ?_
    refine v_get (pc := 81) (v := .ref (a 6)) C inX5 0 rfl rfl 6 (by decide) kw3_31 rfl dX5_rows_81 ?_
    refine v_iconst (pc := 84) (v := 4) C dX5_rows_84 (by decide) ?_
    refine v_aload_n (pc := 85) C dX5_rows_85 rfl ?_
    refine v_get (pc := 86) (v := .ref (a 7)) C inX5 0 rfl rfl 7 (by decide) kw3_32 rfl dX5_rows_86 ?_
    refine v_iload_n (pc := 89) C dX5_rows_89 rfl ?_
    refine v_iconst (pc := 90) (v := 4) C dX5_rows_90 (by decide) ?_
    refine v_idivN (pc := 91) C (y) 4 rfl rfl (by omega) (by omega) (by omega) dX5_rows_91 ?_
    refine v_ialdN (pc := 92) (i := ((y) / 4)) (f := (mA S 7)) C 7 rfl (by omega) (by decide) dX5_rows_92 ?_
    refine v_cv (y := (nI (ρ))) (eρ) ?_
    refine v_imulN (pc := 93) C 4 (ρ) rfl rfl dX5_rows_93 ?_
    refine v_iload (pc := 94) C dX5_rows_94 rfl ?_
    refine v_iaddN (pc := 96) C (4 * (ρ)) (κ) rfl rfl dX5_rows_96 ?_
    refine v_ialdN (pc := 97) (i := ((4 * (ρ)) + (κ))) (f := (mA S 6)) C 6 rfl (by omega) (by decide) dX5_rows_97 ?_
    refine v_iastN (pc := 98) (i := (x)) (f := (mA S 5)) C 5 rfl (by omega) (by decide) dX5_rows_98 (ws' := (MW G o a (sA S 5 (upd ((mA S 5)) (x) ((mA S 6) ((4 * (ρ)) + (κ))))))) rfl ?_
    refine v_goto (pc := 99) (tgt := 211) C dX5_rows_99 (by decide) ?_
    exact v_vret (pc := 211) C dX5_rows_211 ((sA S 5 (upd ((mA S 5)) (x) ((mA S 6) ((4 * (ρ)) + (κ)))))) rfl (by rw [tρ, tκ])
set_option maxHeartbeats 4000000 in
set_option maxRecDepth 100000 in
theorem kX5_rows_9 (G : TG) (o : Nat) (a : Nat → Nat) (S : MS) (x y : Nat) (mk : Int32) (hr : okr (mA S 7)) (hx : x < 2) (hy : y < 2) (hm : mk &&& 1 = 0) : CT G yX5_rows cX5_rows 8 none rmX5_rows 0 0 [.ref (o), .int 9, .int (nI (x)), .int (nI (y)), .int (mk)] (MW G o a S) (fun S : MS => MW G o a S) (Rv (fun S' => S' = sA S 7 (upd (mA S 7) x (mA S 7 y)))) := by
  refine CT.enter (by decide) (Nat.le_of_ble_eq_true rfl) (fun X C hnm => ?_)
  refine V.less [(0, .ref (o)), (1, .int 9), (2, .int (nI (x))), (3, .int (nI (y))), (4, .int (mk))] ⟨rfl, rfl, rfl, rfl, rfl, trivial⟩ ?_
  refine v_iload_n (pc := 0) C dX5_rows_0 rfl ?_
  refine v_bipush (pc := 1) (v := 7) C dX5_rows_1 (by decide) ?_
  refine v_icmp_ne (pc := 3) (tgt := 41) C dX5_rows_3 (by decide) (fun _ => ?_) (fun q => absurd q (by decide))
  refine v_iload_n (pc := 41) C dX5_rows_41 rfl ?_
  refine v_bipush (pc := 42) (v := 8) C dX5_rows_42 (by decide) ?_
  refine v_icmp_ne (pc := 44) (tgt := 102) C dX5_rows_44 (by decide) (fun _ => ?_) (fun q => absurd q (by decide))
  refine v_iload (pc := 102) C dX5_rows_102 rfl ?_
  refine v_iconst (pc := 104) (v := 1) C dX5_rows_104 (by decide) ?_
  refine v_callS0 (pc := 105) (st := []) C (kX5_has G _ mk 1) ykX5_has kw3_174 kw3_173 dX5_rows_105 rfl rfl rfl (by decide) (Nat.le_of_ble_eq_true rfl) (by decide) rfl (Ri_kk (fun r_105 u_105 h_105 => ?_))
  rw [if_pos hm] at h_105; subst h_105
  refine v_if_eqT (pc := 108) (tgt := 199) C (by decide) dX5_rows_108 (by decide) ?_
  refine v_aload_n (pc := 199) C dX5_rows_199 rfl ?_
  refine v_get (pc := 200) (v := .ref (a 7)) C inX5 0 rfl rfl 7 (by decide) kw3_32 rfl dX5_rows_200 ?_
  refine v_iload_n (pc := 203) C dX5_rows_203 rfl ?_
  refine v_aload_n (pc := 204) C dX5_rows_204 rfl ?_
  refine v_get (pc := 205) (v := .ref (a 7)) C inX5 0 rfl rfl 7 (by decide) kw3_32 rfl dX5_rows_205 ?_
  refine v_iload_n (pc := 208) C dX5_rows_208 rfl ?_
  refine v_ialdN (pc := 209) (i := (y)) (f := (mA S 7)) C 7 rfl (by omega) (by decide) dX5_rows_209 ?_
  refine v_iastN (pc := 210) (i := (x)) (f := (mA S 7)) C 7 rfl (by omega) (by decide) dX5_rows_210 (ws' := (MW G o a (sA S 7 (upd ((mA S 7)) (x) ((mA S 7) (y)))))) rfl ?_
  exact v_vret (pc := 211) C dX5_rows_211 ((sA S 7 (upd ((mA S 7)) (x) ((mA S 7) (y))))) rfl (rfl)
set_option maxHeartbeats 4000000 in
set_option maxRecDepth 100000 in
theorem kX5_rows_9s (G : TG) (o : Nat) (a : Nat → Nat) (S : MS) (x y : Nat) (mk : Int32) (hr : okr (mA S 7)) (hx : x < 2) (hy : y < 2) (hm : ¬ mk &&& 1 = 0) : CT G yX5_rows cX5_rows 8 none rmX5_rows 0 0 [.ref (o), .int 9, .int (nI (x)), .int (nI (y)), .int (mk)] (MW G o a S) (fun S : MS => MW G o a S) (Rv (fun S' => S' = sA (sA S 6 (cpk (mA S 6) (tn (mA S 7 y)) (if mA S 7 0 = mA S 7 1 then 1 - tn (mA S 7 y) else tn (mA S 7 x)) 4)) 7 (upd (mA S 7) x (nI (if mA S 7 0 = mA S 7 1 then 1 - tn (mA S 7 y) else tn (mA S 7 x)))))) := by
  refine CT.enter (by decide) (Nat.le_of_ble_eq_true rfl) (fun X C hnm => ?_)
  refine V.less [(0, .ref (o)), (1, .int 9), (2, .int (nI (x))), (3, .int (nI (y))), (4, .int (mk))] ⟨rfl, rfl, rfl, rfl, rfl, trivial⟩ ?_
  obtain ⟨ρ, hρ, eρ, tρ⟩ := okr_at hr hy
  obtain ⟨σ, hσ, eσ, tσ⟩ := okr_at hr hx
  refine v_iload_n (pc := 0) C dX5_rows_0 rfl ?_
  refine v_bipush (pc := 1) (v := 7) C dX5_rows_1 (by decide) ?_
  refine v_icmp_ne (pc := 3) (tgt := 41) C dX5_rows_3 (by decide) (fun _ => ?_) (fun q => absurd q (by decide))
  refine v_iload_n (pc := 41) C dX5_rows_41 rfl ?_
  refine v_bipush (pc := 42) (v := 8) C dX5_rows_42 (by decide) ?_
  refine v_icmp_ne (pc := 44) (tgt := 102) C dX5_rows_44 (by decide) (fun _ => ?_) (fun q => absurd q (by decide))
  refine v_iload (pc := 102) C dX5_rows_102 rfl ?_
  refine v_iconst (pc := 104) (v := 1) C dX5_rows_104 (by decide) ?_
  refine v_callS0 (pc := 105) (st := []) C (kX5_has G _ mk 1) ykX5_has kw3_174 kw3_173 dX5_rows_105 rfl rfl rfl (by decide) (Nat.le_of_ble_eq_true rfl) (by decide) rfl (Ri_kk (fun r_105 u_105 h_105 => ?_))
  rw [if_neg hm] at h_105; subst h_105
  refine v_if_eqF (pc := 108) (tgt := 199) C (by decide) dX5_rows_108 (by decide) ?_
  refine v_aload_n (pc := 111) C dX5_rows_111 rfl ?_
  refine v_get (pc := 112) (v := .ref (a 7)) C inX5 0 rfl rfl 7 (by decide) kw3_32 rfl dX5_rows_112 ?_
  refine v_iload_n (pc := 115) C dX5_rows_115 rfl ?_
  refine v_ialdN (pc := 116) (i := (y)) (f := (mA S 7)) C 7 rfl (by omega) (by decide) dX5_rows_116 ?_
  refine v_cv (y := (nI (ρ))) (eρ) ?_
  refine v_istore (pc := 117) C dX5_rows_117 (by decide) ?_
  refine v_aload_n (pc := 119) C dX5_rows_119 rfl ?_
  refine v_get (pc := 120) (v := .ref (a 7)) C inX5 0 rfl rfl 7 (by decide) kw3_32 rfl dX5_rows_120 ?_
  refine v_iconst (pc := 123) (v := 0) C dX5_rows_123 (by decide) ?_
  refine v_ialdN (pc := 124) (i := 0) (f := (mA S 7)) C 7 rfl (by omega) (by decide) dX5_rows_124 ?_
  refine v_aload_n (pc := 125) C dX5_rows_125 rfl ?_
  refine v_get (pc := 126) (v := .ref (a 7)) C inX5 0 rfl rfl 7 (by decide) kw3_32 rfl dX5_rows_126 ?_
  refine v_iconst (pc := 129) (v := 1) C dX5_rows_129 (by decide) ?_
  refine v_ialdN (pc := 130) (i := 1) (f := (mA S 7)) C 7 rfl (by omega) (by decide) dX5_rows_130 ?_
  refine v_icmp_ne (pc := 131) (tgt := 141) C dX5_rows_131 (by decide) (fun c_131 => ?_) (fun c_131 => ?_)
  · refine v_aload_n (pc := 141) C dX5_rows_141 rfl ?_
    refine v_get (pc := 142) (v := .ref (a 7)) C inX5 0 rfl rfl 7 (by decide) kw3_32 rfl dX5_rows_142 ?_
    refine v_iload_n (pc := 145) C dX5_rows_145 rfl ?_
    refine v_ialdN (pc := 146) (i := (x)) (f := (mA S 7)) C 7 rfl (by omega) (by decide) dX5_rows_146 ?_
    refine v_cv (y := (nI (σ))) (eσ) ?_
    refine v_istore (pc := 147) C dX5_rows_147 (by decide) ?_
    refine v_iconst (pc := 149) (v := 0) C dX5_rows_149 (by decide) ?_
    refine v_istore (pc := 150) C dX5_rows_150 (by decide) ?_
    have L152 : ∀ (fu : Nat) (k : Nat) (c : Nat → Int32), (4 < k + fu) → (k ≤ 4) → (c = cpk (mA S 6) ρ ((σ)) k) → V G X cX5_rows 8 rmX5_rows (QX G X (fun S : MS => MW G o a S) (Rv (fun S' => S' = sA (sA S 6 (cpk (mA S 6) (tn (mA S 7 y)) (if mA S 7 0 = mA S 7 1 then 1 - tn (mA S 7 y) else tn (mA S 7 x)) 4)) 7 (upd (mA S 7) x (nI (if mA S 7 0 = mA S 7 1 then 1 - tn (mA S 7 y) else tn (mA S 7 x)))))) 0 0) 0 0 152 (lvo [(0, .ref (o)), (1, .int 9), (2, .int (nI (x))), (3, .int (nI (y))), (4, .int (mk)), (5, .int (nI (ρ))), (6, .int (nI (σ))), (7, .int (nI (k)))]) [] (MW G o a (sA S 6 c)) := by
      intro fu
      induction fu with
      | zero => intro k c hf hk hc; exfalso; omega
      | succ fu ih =>
        intro k c hf hk hc
        refine v_iload (pc := 152) C dX5_rows_152 rfl ?_
        refine v_iconst (pc := 154) (v := 4) C dX5_rows_154 (by decide) ?_
        refine v_icmp_geN (pc := 155) (tgt := 188) C (k) 4 rfl rfl (by omega) (by omega) dX5_rows_155 (by decide) (fun c_155 => ?_) (fun c_155 => ?_)
        · refine v_aload_n (pc := 188) C dX5_rows_188 rfl ?_
          refine v_get (pc := 189) (v := .ref (a 7)) C inX5 0 rfl rfl 7 (by decide) kw3_32 rfl dX5_rows_189 ?_
          refine v_iload_n (pc := 192) C dX5_rows_192 rfl ?_
          refine v_iload (pc := 193) C dX5_rows_193 rfl ?_
          refine v_iastN (pc := 195) (i := (x)) (f := (mA S 7)) C 7 rfl (by omega) (by decide) dX5_rows_195 (ws' := (MW G o a (sA (sA S 6 c) 7 (upd ((mA S 7)) (x) (nI (σ)))))) rfl ?_
          refine v_goto (pc := 196) (tgt := 211) C dX5_rows_196 (by decide) ?_
          exact v_vret (pc := 211) C dX5_rows_211 ((sA (sA S 6 c) 7 (upd ((mA S 7)) (x) (nI (σ))))) rfl (by rw [hc, show k = 4 by omega, if_neg c_131, tσ, tρ])
        · refine v_aload_n (pc := 158) C dX5_rows_158 rfl ?_
          refine v_get (pc := 159) (v := .ref (a 6)) C inX5 0 rfl rfl 6 (by decide) kw3_31 rfl dX5_rows_159 ?_
          refine v_iconst (pc := 162) (v := 4) C dX5_rows_162 (by decide) ?_
          refine v_iload (pc := 163) C dX5_rows_163 rfl ?_
          refine v_imulN (pc := 165) C 4 (σ) rfl rfl dX5_rows_165 ?_
          refine v_iload (pc := 166) C dX5_rows_166 rfl ?_
          refine v_iaddN (pc := 168) C (4 * (σ)) (k) rfl rfl dX5_rows_168 ?_
          refine v_aload_n (pc := 169) C dX5_rows_169 rfl ?_
          refine v_get (pc := 170) (v := .ref (a 6)) C inX5 0 rfl rfl 6 (by decide) kw3_31 rfl dX5_rows_170 ?_
          refine v_iconst (pc := 173) (v := 4) C dX5_rows_173 (by decide) ?_
          refine v_iload (pc := 174) C dX5_rows_174 rfl ?_
          refine v_imulN (pc := 176) C 4 (ρ) rfl rfl dX5_rows_176 ?_
          refine v_iload (pc := 177) C dX5_rows_177 rfl ?_
          refine v_iaddN (pc := 179) C (4 * (ρ)) (k) rfl rfl dX5_rows_179 ?_
          refine v_ialdN (pc := 180) (i := ((4 * (ρ)) + (k))) (f := c) C 6 rfl (by omega) (by decide) dX5_rows_180 ?_
          refine v_iastN (pc := 181) (i := ((4 * (σ)) + (k))) (f := c) C 6 rfl (by omega) (by decide) dX5_rows_181 (ws' := (MW G o a (sA S 6 (upd (c) ((4 * (σ)) + (k)) (c ((4 * (ρ)) + (k))))))) rfl ?_
          refine v_iinc1 (pc := 182) C (k) rfl dX5_rows_182 rfl ?_
          refine v_goto (pc := 185) (tgt := 152) C dX5_rows_185 (by decide) ?_
          exact V.lessE (ih  (((k) + 1)) ((upd (c) ((4 * (σ)) + (k)) (c ((4 * (ρ)) + (k))))) (by omega) (by omega) (by rw [hc]; rfl)) ⟨rfl, rfl, rfl, rfl, rfl, rfl, rfl, rfl, trivial⟩
    exact V.lessE (L152 (5) (0) ((mA S 6)) (by omega) (by omega) (rfl)) ⟨rfl, rfl, rfl, rfl, rfl, rfl, rfl, rfl, trivial⟩
  · refine v_iconst (pc := 134) (v := 1) C dX5_rows_134 (by decide) ?_
    refine v_iload (pc := 135) C dX5_rows_135 rfl ?_
    refine v_isubN (pc := 137) C 1 (ρ) rfl rfl (by omega) dX5_rows_137 ?_
    refine v_goto (pc := 138) (tgt := 147) C dX5_rows_138 (by decide) ?_
    refine v_istore (pc := 147) C dX5_rows_147 (by decide) ?_
    refine v_iconst (pc := 149) (v := 0) C dX5_rows_149 (by decide) ?_
    refine v_istore (pc := 150) C dX5_rows_150 (by decide) ?_
    have L152 : ∀ (fu : Nat) (k : Nat) (c : Nat → Int32), (4 < k + fu) → (k ≤ 4) → (c = cpk (mA S 6) ρ ((1 - (ρ))) k) → V G X cX5_rows 8 rmX5_rows (QX G X (fun S : MS => MW G o a S) (Rv (fun S' => S' = sA (sA S 6 (cpk (mA S 6) (tn (mA S 7 y)) (if mA S 7 0 = mA S 7 1 then 1 - tn (mA S 7 y) else tn (mA S 7 x)) 4)) 7 (upd (mA S 7) x (nI (if mA S 7 0 = mA S 7 1 then 1 - tn (mA S 7 y) else tn (mA S 7 x)))))) 0 0) 0 0 152 (lvo [(0, .ref (o)), (1, .int 9), (2, .int (nI (x))), (3, .int (nI (y))), (4, .int (mk)), (5, .int (nI (ρ))), (6, .int (nI (1 - (ρ)))), (7, .int (nI (k)))]) [] (MW G o a (sA S 6 c)) := by
      intro fu
      induction fu with
      | zero => intro k c hf hk hc; exfalso; omega
      | succ fu ih =>
        intro k c hf hk hc
        refine v_iload (pc := 152) C dX5_rows_152 rfl ?_
        refine v_iconst (pc := 154) (v := 4) C dX5_rows_154 (by decide) ?_
        refine v_icmp_geN (pc := 155) (tgt := 188) C (k) 4 rfl rfl (by omega) (by omega) dX5_rows_155 (by decide) (fun c_155 => ?_) (fun c_155 => ?_)
        · refine v_aload_n (pc := 188) C dX5_rows_188 rfl ?_
          refine v_get (pc := 189) (v := .ref (a 7)) C inX5 0 rfl rfl 7 (by decide) kw3_32 rfl dX5_rows_189 ?_
          refine v_iload_n (pc := 192) C dX5_rows_192 rfl ?_
          refine v_iload (pc := 193) C dX5_rows_193 rfl ?_
          refine v_iastN (pc := 195) (i := (x)) (f := (mA S 7)) C 7 rfl (by omega) (by decide) dX5_rows_195 (ws' := (MW G o a (sA (sA S 6 c) 7 (upd ((mA S 7)) (x) (nI (1 - (ρ))))))) rfl ?_
          refine v_goto (pc := 196) (tgt := 211) C dX5_rows_196 (by decide) ?_
          exact v_vret (pc := 211) C dX5_rows_211 ((sA (sA S 6 c) 7 (upd ((mA S 7)) (x) (nI (1 - (ρ)))))) rfl (by rw [hc, show k = 4 by omega, if_pos c_131, tρ])
        · refine v_aload_n (pc := 158) C dX5_rows_158 rfl ?_
          refine v_get (pc := 159) (v := .ref (a 6)) C inX5 0 rfl rfl 6 (by decide) kw3_31 rfl dX5_rows_159 ?_
          refine v_iconst (pc := 162) (v := 4) C dX5_rows_162 (by decide) ?_
          refine v_iload (pc := 163) C dX5_rows_163 rfl ?_
          refine v_imulN (pc := 165) C 4 (1 - (ρ)) rfl rfl dX5_rows_165 ?_
          refine v_iload (pc := 166) C dX5_rows_166 rfl ?_
          refine v_iaddN (pc := 168) C (4 * (1 - (ρ))) (k) rfl rfl dX5_rows_168 ?_
          refine v_aload_n (pc := 169) C dX5_rows_169 rfl ?_
          refine v_get (pc := 170) (v := .ref (a 6)) C inX5 0 rfl rfl 6 (by decide) kw3_31 rfl dX5_rows_170 ?_
          refine v_iconst (pc := 173) (v := 4) C dX5_rows_173 (by decide) ?_
          refine v_iload (pc := 174) C dX5_rows_174 rfl ?_
          refine v_imulN (pc := 176) C 4 (ρ) rfl rfl dX5_rows_176 ?_
          refine v_iload (pc := 177) C dX5_rows_177 rfl ?_
          refine v_iaddN (pc := 179) C (4 * (ρ)) (k) rfl rfl dX5_rows_179 ?_
          refine v_ialdN (pc := 180) (i := ((4 * (ρ)) + (k))) (f := c) C 6 rfl (by omega) (by decide) dX5_rows_180 ?_
          refine v_iastN (pc := 181) (i := ((4 * (1 - (ρ))) + (k))) (f := c) C 6 rfl (by omega) (by decide) dX5_rows_181 (ws' := (MW G o a (sA S 6 (upd (c) ((4 * (1 - (ρ))) + (k)) (c ((4 * (ρ)) + (k))))))) rfl ?_
          refine v_iinc1 (pc := 182) C (k) rfl dX5_rows_182 rfl ?_
          refine v_goto (pc := 185) (tgt := 152) C dX5_rows_185 (by decide) ?_
          exact V.lessE (ih  (((k) + 1)) ((upd (c) ((4 * (1 - (ρ))) + (k)) (c ((4 * (ρ)) + (k))))) (by omega) (by omega) (by rw [hc]; rfl)) ⟨rfl, rfl, rfl, rfl, rfl, rfl, rfl, rfl, trivial⟩
    exact V.lessE (L152 (5) (0) ((mA S 6)) (by omega) (by omega) (rfl)) ⟨rfl, rfl, rfl, rfl, rfl, rfl, rfl, rfl, trivial⟩
end
section
/-! the reference: one line -/
theorem updL2 (f : Nat → Int64) (k : Nat) (x y : Int64) : vp_updL (vp_updL f k x) k y = vp_updL f k y := by
  funext j
  by_cases h : j = k <;> simp [vp_updL, h]
theorem pos1 {x : Int32} (h : 0 < x.toInt64) : 0 < x.toInt64 + 1 := by
  have e : x.toInt64.toInt = x.toInt := by simp
  have b1 := x.toInt_lt
  have b2 := x.le_toInt
  rw [Int64.lt_iff_toInt_lt] at h ⊢
  have z : (0 : Int64).toInt = 0 := rfl
  have o1 : (1 : Int64).toInt = 1 := rfl
  rw [Int64.toInt_add, z, o1, e]
  rw [z, e] at h
  rw [Int.bmod_eq_of_le (by omega) (by omega)]
  omega
/-- a run's state over the reference's -/
def putR (S : MS) (s : RS) : MS := sL (sA (sA (sA S 5 s.2.1) 6 s.2.2.1) 7 s.2.2.2.1) s.2.2.2.2
theorem putR5 (S : MS) (n : Nat) (f : Nat → Int32) : sA S 5 f = putR S (n, f, mA S 6, mA S 7, mL S) := by
  show _ = sL (sA (sA (sA S 5 f) 6 (mA (sA S 5 f) 6)) 7 (mA (sA S 5 f) 7)) (mL S)
  rw [sA_self, sA_self]; rfl
theorem putR6 (S : MS) (n : Nat) (f : Nat → Int32) : sA S 6 f = putR S (n, mA S 5, f, mA S 7, mL S) := by
  show _ = sL (sA (sA (sA S 5 (mA S 5)) 6 f) 7 (mA S 7)) (mL S)
  rw [sA_self]
  show _ = sL (sA (sA S 6 f) 7 (mA (sA S 6 f) 7)) (mL S)
  rw [sA_self]; rfl
theorem putR7 (S : MS) (n : Nat) (f : Nat → Int32) : sA S 7 f = putR S (n, mA S 5, mA S 6, f, mL S) := by
  show _ = sL (sA (sA (sA S 5 (mA S 5)) 6 (mA S 6)) 7 f) (mL S)
  rw [sA_self, sA_self]; rfl
theorem putR67 (S : MS) (n : Nat) (f g : Nat → Int32) : sA (sA S 6 f) 7 g = putR S (n, mA S 5, f, g, mL S) := by
  show _ = sL (sA (sA (sA S 5 (mA S 5)) 6 f) 7 g) (mL S)
  rw [sA_self]; rfl
theorem putRL (S : MS) (n : Nat) (f : Nat → Int64) : sL S f = putR S (n, mA S 5, mA S 6, mA S 7, f) := by
  show _ = sL (sA (sA (sA S 5 (mA S 5)) 6 (mA S 6)) 7 (mA S 7)) f
  rw [sA_self, sA_self, sA_self]
theorem putR0 (S : MS) (n : Nat) : S = putR S (n, mA S 5, mA S 6, mA S 7, mL S) := (putRL S n (mL S)).symm ▸ rfl
section ST
variable {O X Y : Nat → Int32} {mk : Int32} {s : RS}
theorem st_0 (h : O s.1 = 0) : stS O X Y mk s = ((s.1 + 1, upd s.2.1 (tn (X s.1)) (Y s.1), s.2.2.1, s.2.2.2.1, s.2.2.2.2)) := by
  unfold stS
  rw [if_pos h]
theorem st_1 (h : O s.1 = 1) : stS O X Y mk s = ((s.1 + 1, (if mk &&& 4 = 0 then upd s.2.1 (tn (X s.1)) (s.2.1 (tn (Y s.1))) else upd s.2.1 (tn (Y s.1)) (s.2.1 (tn (X s.1)))), s.2.2.1, s.2.2.2.1, s.2.2.2.2)) := by
  unfold stS
  rw [if_neg (by rw [h]; decide), if_pos h]
theorem st_2 (h : O s.1 = 2) : stS O X Y mk s = ((s.1 + 1, upd s.2.1 (tn (X s.1)) (s.2.1 (tn (X s.1)) + s.2.1 (tn (Y s.1))), s.2.2.1, s.2.2.2.1, s.2.2.2.2)) := by
  unfold stS
  rw [if_neg (by rw [h]; decide), if_neg (by rw [h]; decide), if_pos h]
theorem st_3 (h : O s.1 = 3) : stS O X Y mk s = ((s.1 + 1, upd s.2.1 (tn (X s.1)) (if mk &&& 16 = 0 then s.2.1 (tn (X s.1)) - s.2.1 (tn (Y s.1)) else s.2.1 (tn (Y s.1)) - s.2.1 (tn (X s.1))), s.2.2.1, s.2.2.2.1, s.2.2.2.2)) := by
  unfold stS
  rw [if_neg (by rw [h]; decide), if_neg (by rw [h]; decide), if_neg (by rw [h]; decide), if_pos h]
theorem st_4 (h : O s.1 = 4) : stS O X Y mk s = (((if 0 < (s.2.1 (tn (X s.1))).toInt64 then s.1 + 1 else mtf O s.1 + 1), s.2.1, s.2.2.1, s.2.2.2.1, vp_updL s.2.2.2.2 s.1 ((s.2.1 (tn (X s.1))).toInt64 + (if 0 < (s.2.1 (tn (X s.1))).toInt64 ∧ ¬ mk &&& 2 = 0 then 1 else 0)))) := by
  unfold stS
  rw [if_neg (by rw [h]; decide), if_neg (by rw [h]; decide), if_neg (by rw [h]; decide), if_neg (by rw [h]; decide), if_pos h]
theorem st_5 (h : O s.1 = 5) : stS O X Y mk s = (((if s.2.1 (tn (X s.1)) < s.2.1 (tn (Y s.1)) ∨ (¬ mk &&& 8 = 0 ∧ s.2.1 (tn (X s.1)) = s.2.1 (tn (Y s.1))) then s.1 + 1 else mtf O s.1 + 1), s.2.1, s.2.2.1, s.2.2.2.1, s.2.2.2.2)) := by
  unfold stS
  rw [if_neg (by rw [h]; decide), if_neg (by rw [h]; decide), if_neg (by rw [h]; decide), if_neg (by rw [h]; decide), if_neg (by rw [h]; decide), if_pos h]
theorem st_6 (h : O s.1 = 6) : stS O X Y mk s = ((if O (mtf O s.1) = 5 then (s.1 + 1, s.2.1, s.2.2.1, s.2.2.2.1, s.2.2.2.2) else ((if 0 < s.2.2.2.2 (mtf O s.1) - 1 then mtf O s.1 + 1 else s.1 + 1), s.2.1, s.2.2.1, s.2.2.2.1, vp_updL s.2.2.2.2 (mtf O s.1) (s.2.2.2.2 (mtf O s.1) - 1)))) := by
  unfold stS
  rw [if_neg (by rw [h]; decide), if_neg (by rw [h]; decide), if_neg (by rw [h]; decide), if_neg (by rw [h]; decide), if_neg (by rw [h]; decide), if_neg (by rw [h]; decide), if_pos h]
theorem st_7 (h : O s.1 = 7) : stS O X Y mk s = ((s.1 + 1, s.2.1, upd s.2.2.1 (4 * tn (s.2.2.2.1 (tn (X s.1) / 4)) + tn (s.2.1 (tn (X s.1) % 4) &&& 3)) (s.2.1 (tn (Y s.1))), s.2.2.2.1, s.2.2.2.2)) := by
  unfold stS
  rw [if_neg (by rw [h]; decide), if_neg (by rw [h]; decide), if_neg (by rw [h]; decide), if_neg (by rw [h]; decide), if_neg (by rw [h]; decide), if_neg (by rw [h]; decide), if_neg (by rw [h]; decide), if_pos h]
theorem st_8 (h : O s.1 = 8) : stS O X Y mk s = ((s.1 + 1, upd s.2.1 (tn (X s.1)) (s.2.2.1 (4 * tn (s.2.2.2.1 (tn (Y s.1) / 4)) + tn ((s.2.1 (tn (Y s.1) % 4) + (if mk &&& 32 = 0 then 0 else 1)) &&& 3))), s.2.2.1, s.2.2.2.1, s.2.2.2.2)) := by
  unfold stS
  rw [if_neg (by rw [h]; decide), if_neg (by rw [h]; decide), if_neg (by rw [h]; decide), if_neg (by rw [h]; decide), if_neg (by rw [h]; decide), if_neg (by rw [h]; decide), if_neg (by rw [h]; decide), if_neg (by rw [h]; decide), if_pos h]
theorem st_9 (h : O s.1 = 9) : stS O X Y mk s = (if mk &&& 1 = 0 then (s.1 + 1, s.2.1, s.2.2.1, upd s.2.2.2.1 (tn (X s.1)) (s.2.2.2.1 (tn (Y s.1))), s.2.2.2.2) else (s.1 + 1, s.2.1, cpk s.2.2.1 (tn (s.2.2.2.1 (tn (Y s.1)))) (if s.2.2.2.1 0 = s.2.2.2.1 1 then 1 - tn (s.2.2.2.1 (tn (Y s.1))) else tn (s.2.2.2.1 (tn (X s.1)))) 4, upd s.2.2.2.1 (tn (X s.1)) (nI (if s.2.2.2.1 0 = s.2.2.2.1 1 then 1 - tn (s.2.2.2.1 (tn (Y s.1))) else tn (s.2.2.2.1 (tn (X s.1))))), s.2.2.2.2)) := by
  unfold stS
  rw [if_neg (by rw [h]; decide), if_neg (by rw [h]; decide), if_neg (by rw [h]; decide), if_neg (by rw [h]; decide), if_neg (by rw [h]; decide), if_neg (by rw [h]; decide), if_neg (by rw [h]; decide), if_neg (by rw [h]; decide), if_neg (by rw [h]; decide)]
end ST
def rmX5_doLine : Room := { frames := 2, cells := 0, slots := 0, locals := 48 }
set_option maxHeartbeats 4000000 in
set_option maxRecDepth 100000 in
theorem kX5_doLine_0 (G : TG) (o : Nat) (a : Nat → Nat) (S : MS) (p l : Nat) (mk : Int32) (hp : p < 10) (hl : l < 20) (x : Nat) (ho : mA S 0 (20 * p + l) = 0) (ex : mA S 1 (20 * p + l) = nI x) (hx : x < 4) (b : Int32) : CT G yX5_doLine cX5_doLine 8 (some .int) rmX5_doLine 0 0 [.ref (o), .int (nI (p)), .int (nI (l)), .int (mk), .int (b)] (MW G o a S) (fun S : MS => MW G o a S) (Ri (fun r S' => r = nI (l + 1) ∧ S' = sA S 5 (upd (mA S 5) x b))) := by
  refine CT.enter (by decide) (Nat.le_of_ble_eq_true rfl) (fun X C hnm => ?_)
  refine V.less [(0, .ref (o)), (1, .int (nI (p))), (2, .int (nI (l))), (3, .int (mk)), (4, .int (b))] ⟨rfl, rfl, rfl, rfl, rfl, trivial⟩ ?_
  refine v_aload_n (pc := 0) C dX5_doLine_0 rfl ?_
  refine v_get (pc := 1) (v := .ref (a 0)) C inX5 0 rfl rfl 0 (by decide) kw3_25 rfl dX5_doLine_1 ?_
  refine v_bipush (pc := 4) (v := 20) C dX5_doLine_4 (by decide) ?_
  refine v_iload_n (pc := 6) C dX5_doLine_6 rfl ?_
  refine v_imulN (pc := 7) C 20 (p) rfl rfl dX5_doLine_7 ?_
  refine v_iload_n (pc := 8) C dX5_doLine_8 rfl ?_
  refine v_iaddN (pc := 9) C (20 * (p)) (l) rfl rfl dX5_doLine_9 ?_
  refine v_ialdN (pc := 10) (i := ((20 * (p)) + (l))) (f := (mA S 0)) C 1 rfl (by omega) (by decide) dX5_doLine_10 ?_
  refine v_cv (y := (0 : Int32)) (ho) ?_
  refine v_istore (pc := 11) C dX5_doLine_11 (by decide) ?_
  refine v_aload_n (pc := 13) C dX5_doLine_13 rfl ?_
  refine v_get (pc := 14) (v := .ref (a 1)) C inX5 0 rfl rfl 1 (by decide) kw3_26 rfl dX5_doLine_14 ?_
  refine v_bipush (pc := 17) (v := 20) C dX5_doLine_17 (by decide) ?_
  refine v_iload_n (pc := 19) C dX5_doLine_19 rfl ?_
  refine v_imulN (pc := 20) C 20 (p) rfl rfl dX5_doLine_20 ?_
  refine v_iload_n (pc := 21) C dX5_doLine_21 rfl ?_
  refine v_iaddN (pc := 22) C (20 * (p)) (l) rfl rfl dX5_doLine_22 ?_
  refine v_ialdN (pc := 23) (i := ((20 * (p)) + (l))) (f := (mA S 1)) C 2 rfl (by omega) (by decide) dX5_doLine_23 ?_
  refine v_cv (y := (nI (x))) (ex) ?_
  refine v_istore (pc := 24) C dX5_doLine_24 (by decide) ?_
  refine v_iload (pc := 26) C dX5_doLine_26 rfl ?_
  refine v_tableIn (pc := 28) (tgt := 72) C dX5_doLine_28 (by decide) (by decide) rfl (by decide) ?_
  refine v_aload_n (pc := 72) C dX5_doLine_72 rfl ?_
  refine v_get (pc := 73) (v := .ref (a 5)) C inX5 0 rfl rfl 5 (by decide) kw3_30 rfl dX5_doLine_73 ?_
  refine v_iload (pc := 76) C dX5_doLine_76 rfl ?_
  refine v_iload (pc := 78) C dX5_doLine_78 rfl ?_
  refine v_iastN (pc := 80) (i := (x)) (f := (mA S 5)) C 5 rfl (by omega) (by decide) dX5_doLine_80 (ws' := (MW G o a (sA S 5 (upd ((mA S 5)) (x) (b))))) rfl ?_
  refine v_iload_n (pc := 81) C dX5_doLine_81 rfl ?_
  refine v_iconst (pc := 82) (v := 1) C dX5_doLine_82 (by decide) ?_
  refine v_iaddN (pc := 83) C (l) 1 rfl rfl dX5_doLine_83 ?_
  exact v_iret (pc := 84) C dX5_doLine_84 (rfl) ((sA S 5 (upd ((mA S 5)) (x) (b)))) rfl (⟨rfl, rfl⟩)
set_option maxHeartbeats 4000000 in
set_option maxRecDepth 100000 in
theorem kX5_doLine_1 (G : TG) (o : Nat) (a : Nat → Nat) (S : MS) (p l : Nat) (mk : Int32) (hp : p < 10) (hl : l < 20) (x : Nat) (ho : mA S 0 (20 * p + l) = 1) (ex : mA S 1 (20 * p + l) = nI x) (hx : x < 4) (y : Nat) (hy : y < 4) : CT G yX5_doLine cX5_doLine 8 (some .int) rmX5_doLine 0 0 [.ref (o), .int (nI (p)), .int (nI (l)), .int (mk), .int (nI (y))] (MW G o a S) (fun S : MS => MW G o a S) (Ri (fun r S' => r = nI (l + 1) ∧ S' = sA S 5 (if mk &&& 4 = 0 then upd (mA S 5) x (mA S 5 y) else upd (mA S 5) y (mA S 5 x)))) := by
  refine CT.enter (by decide) (Nat.le_of_ble_eq_true rfl) (fun X C hnm => ?_)
  refine V.less [(0, .ref (o)), (1, .int (nI (p))), (2, .int (nI (l))), (3, .int (mk)), (4, .int (nI (y)))] ⟨rfl, rfl, rfl, rfl, rfl, trivial⟩ ?_
  refine v_aload_n (pc := 0) C dX5_doLine_0 rfl ?_
  refine v_get (pc := 1) (v := .ref (a 0)) C inX5 0 rfl rfl 0 (by decide) kw3_25 rfl dX5_doLine_1 ?_
  refine v_bipush (pc := 4) (v := 20) C dX5_doLine_4 (by decide) ?_
  refine v_iload_n (pc := 6) C dX5_doLine_6 rfl ?_
  refine v_imulN (pc := 7) C 20 (p) rfl rfl dX5_doLine_7 ?_
  refine v_iload_n (pc := 8) C dX5_doLine_8 rfl ?_
  refine v_iaddN (pc := 9) C (20 * (p)) (l) rfl rfl dX5_doLine_9 ?_
  refine v_ialdN (pc := 10) (i := ((20 * (p)) + (l))) (f := (mA S 0)) C 1 rfl (by omega) (by decide) dX5_doLine_10 ?_
  refine v_cv (y := (1 : Int32)) (ho) ?_
  refine v_istore (pc := 11) C dX5_doLine_11 (by decide) ?_
  refine v_aload_n (pc := 13) C dX5_doLine_13 rfl ?_
  refine v_get (pc := 14) (v := .ref (a 1)) C inX5 0 rfl rfl 1 (by decide) kw3_26 rfl dX5_doLine_14 ?_
  refine v_bipush (pc := 17) (v := 20) C dX5_doLine_17 (by decide) ?_
  refine v_iload_n (pc := 19) C dX5_doLine_19 rfl ?_
  refine v_imulN (pc := 20) C 20 (p) rfl rfl dX5_doLine_20 ?_
  refine v_iload_n (pc := 21) C dX5_doLine_21 rfl ?_
  refine v_iaddN (pc := 22) C (20 * (p)) (l) rfl rfl dX5_doLine_22 ?_
  refine v_ialdN (pc := 23) (i := ((20 * (p)) + (l))) (f := (mA S 1)) C 2 rfl (by omega) (by decide) dX5_doLine_23 ?_
  refine v_cv (y := (nI (x))) (ex) ?_
  refine v_istore (pc := 24) C dX5_doLine_24 (by decide) ?_
  refine v_iload (pc := 26) C dX5_doLine_26 rfl ?_
  refine v_tableIn (pc := 28) (tgt := 85) C dX5_doLine_28 (by decide) (by decide) rfl (by decide) ?_
  refine v_iload_n (pc := 85) C dX5_doLine_85 rfl ?_
  refine v_iconst (pc := 86) (v := 4) C dX5_doLine_86 (by decide) ?_
  refine v_callS0 (pc := 87) (st := []) C (kX5_has G _ mk 4) ykX5_has kw3_174 kw3_173 dX5_doLine_87 rfl rfl rfl (by decide) (Nat.le_of_ble_eq_true rfl) (by decide) rfl (Ri_kk (fun r_87 u_87 h_87 => ?_))
  rcases (has01 h_87) with ⟨q_87, rfl⟩ | ⟨q_87, rfl⟩
  · refine v_if_eqT (pc := 90) (tgt := 110) C (by decide) dX5_doLine_90 (by decide) ?_
    refine v_aload_n (pc := 110) C dX5_doLine_110 rfl ?_
    refine v_get (pc := 111) (v := .ref (a 5)) C inX5 0 rfl rfl 5 (by decide) kw3_30 rfl dX5_doLine_111 ?_
    refine v_iload (pc := 114) C dX5_doLine_114 rfl ?_
    refine v_aload_n (pc := 116) C dX5_doLine_116 rfl ?_
    refine v_get (pc := 117) (v := .ref (a 5)) C inX5 0 rfl rfl 5 (by decide) kw3_30 rfl dX5_doLine_117 ?_
    refine v_iload (pc := 120) C dX5_doLine_120 rfl ?_
    refine v_ialdN (pc := 122) (i := (y)) (f := (mA S 5)) C 5 rfl (by omega) (by decide) dX5_doLine_122 ?_
    refine v_iastN (pc := 123) (i := (x)) (f := (mA S 5)) C 5 rfl (by omega) (by decide) dX5_doLine_123 (ws' := (MW G o a (sA S 5 (upd ((mA S 5)) (x) ((mA S 5) (y)))))) rfl ?_
    refine v_iload_n (pc := 124) C dX5_doLine_124 rfl ?_
    refine v_iconst (pc := 125) (v := 1) C dX5_doLine_125 (by decide) ?_
    refine v_iaddN (pc := 126) C (l) 1 rfl rfl dX5_doLine_126 ?_
    exact v_iret (pc := 127) C dX5_doLine_127 (rfl) ((sA S 5 (upd ((mA S 5)) (x) ((mA S 5) (y))))) rfl (⟨rfl, by rw [if_pos q_87]⟩)
  · refine v_if_eqF (pc := 90) (tgt := 110) C (by decide) dX5_doLine_90 (by decide) ?_
    refine v_aload_n (pc := 93) C dX5_doLine_93 rfl ?_
    refine v_get (pc := 94) (v := .ref (a 5)) C inX5 0 rfl rfl 5 (by decide) kw3_30 rfl dX5_doLine_94 ?_
    refine v_iload (pc := 97) C dX5_doLine_97 rfl ?_
    refine v_aload_n (pc := 99) C dX5_doLine_99 rfl ?_
    refine v_get (pc := 100) (v := .ref (a 5)) C inX5 0 rfl rfl 5 (by decide) kw3_30 rfl dX5_doLine_100 ?_
    refine v_iload (pc := 103) C dX5_doLine_103 rfl ?_
    refine v_ialdN (pc := 105) (i := (x)) (f := (mA S 5)) C 5 rfl (by omega) (by decide) dX5_doLine_105 ?_
    refine v_iastN (pc := 106) (i := (y)) (f := (mA S 5)) C 5 rfl (by omega) (by decide) dX5_doLine_106 (ws' := (MW G o a (sA S 5 (upd ((mA S 5)) (y) ((mA S 5) (x)))))) rfl ?_
    refine v_goto (pc := 107) (tgt := 124) C dX5_doLine_107 (by decide) ?_
    refine v_iload_n (pc := 124) C dX5_doLine_124 rfl ?_
    refine v_iconst (pc := 125) (v := 1) C dX5_doLine_125 (by decide) ?_
    refine v_iaddN (pc := 126) C (l) 1 rfl rfl dX5_doLine_126 ?_
    exact v_iret (pc := 127) C dX5_doLine_127 (rfl) ((sA S 5 (upd ((mA S 5)) (y) ((mA S 5) (x))))) rfl (⟨rfl, by rw [if_neg q_87]⟩)
set_option maxHeartbeats 4000000 in
set_option maxRecDepth 100000 in
theorem kX5_doLine_2 (G : TG) (o : Nat) (a : Nat → Nat) (S : MS) (p l : Nat) (mk : Int32) (hp : p < 10) (hl : l < 20) (x : Nat) (ho : mA S 0 (20 * p + l) = 2) (ex : mA S 1 (20 * p + l) = nI x) (hx : x < 4) (y : Nat) (hy : y < 4) : CT G yX5_doLine cX5_doLine 8 (some .int) rmX5_doLine 0 0 [.ref (o), .int (nI (p)), .int (nI (l)), .int (mk), .int (nI (y))] (MW G o a S) (fun S : MS => MW G o a S) (Ri (fun r S' => r = nI (l + 1) ∧ S' = sA S 5 (upd (mA S 5) x (mA S 5 x + mA S 5 y)))) := by
  refine CT.enter (by decide) (Nat.le_of_ble_eq_true rfl) (fun X C hnm => ?_)
  refine V.less [(0, .ref (o)), (1, .int (nI (p))), (2, .int (nI (l))), (3, .int (mk)), (4, .int (nI (y)))] ⟨rfl, rfl, rfl, rfl, rfl, trivial⟩ ?_
  refine v_aload_n (pc := 0) C dX5_doLine_0 rfl ?_
  refine v_get (pc := 1) (v := .ref (a 0)) C inX5 0 rfl rfl 0 (by decide) kw3_25 rfl dX5_doLine_1 ?_
  refine v_bipush (pc := 4) (v := 20) C dX5_doLine_4 (by decide) ?_
  refine v_iload_n (pc := 6) C dX5_doLine_6 rfl ?_
  refine v_imulN (pc := 7) C 20 (p) rfl rfl dX5_doLine_7 ?_
  refine v_iload_n (pc := 8) C dX5_doLine_8 rfl ?_
  refine v_iaddN (pc := 9) C (20 * (p)) (l) rfl rfl dX5_doLine_9 ?_
  refine v_ialdN (pc := 10) (i := ((20 * (p)) + (l))) (f := (mA S 0)) C 1 rfl (by omega) (by decide) dX5_doLine_10 ?_
  refine v_cv (y := (2 : Int32)) (ho) ?_
  refine v_istore (pc := 11) C dX5_doLine_11 (by decide) ?_
  refine v_aload_n (pc := 13) C dX5_doLine_13 rfl ?_
  refine v_get (pc := 14) (v := .ref (a 1)) C inX5 0 rfl rfl 1 (by decide) kw3_26 rfl dX5_doLine_14 ?_
  refine v_bipush (pc := 17) (v := 20) C dX5_doLine_17 (by decide) ?_
  refine v_iload_n (pc := 19) C dX5_doLine_19 rfl ?_
  refine v_imulN (pc := 20) C 20 (p) rfl rfl dX5_doLine_20 ?_
  refine v_iload_n (pc := 21) C dX5_doLine_21 rfl ?_
  refine v_iaddN (pc := 22) C (20 * (p)) (l) rfl rfl dX5_doLine_22 ?_
  refine v_ialdN (pc := 23) (i := ((20 * (p)) + (l))) (f := (mA S 1)) C 2 rfl (by omega) (by decide) dX5_doLine_23 ?_
  refine v_cv (y := (nI (x))) (ex) ?_
  refine v_istore (pc := 24) C dX5_doLine_24 (by decide) ?_
  refine v_iload (pc := 26) C dX5_doLine_26 rfl ?_
  refine v_tableIn (pc := 28) (tgt := 128) C dX5_doLine_28 (by decide) (by decide) rfl (by decide) ?_
  refine v_aload_n (pc := 128) C dX5_doLine_128 rfl ?_
  refine v_get (pc := 129) (v := .ref (a 5)) C inX5 0 rfl rfl 5 (by decide) kw3_30 rfl dX5_doLine_129 ?_
  refine v_iload (pc := 132) C dX5_doLine_132 rfl ?_
  refine v_aload_n (pc := 134) C dX5_doLine_134 rfl ?_
  refine v_get (pc := 135) (v := .ref (a 5)) C inX5 0 rfl rfl 5 (by decide) kw3_30 rfl dX5_doLine_135 ?_
  refine v_iload (pc := 138) C dX5_doLine_138 rfl ?_
  refine v_ialdN (pc := 140) (i := (x)) (f := (mA S 5)) C 5 rfl (by omega) (by decide) dX5_doLine_140 ?_
  refine v_aload_n (pc := 141) C dX5_doLine_141 rfl ?_
  refine v_get (pc := 142) (v := .ref (a 5)) C inX5 0 rfl rfl 5 (by decide) kw3_30 rfl dX5_doLine_142 ?_
  refine v_iload (pc := 145) C dX5_doLine_145 rfl ?_
  refine v_ialdN (pc := 147) (i := (y)) (f := (mA S 5)) C 5 rfl (by omega) (by decide) dX5_doLine_147 ?_
  refine v_iadd (pc := 148) C dX5_doLine_148 ?_
  refine v_iastN (pc := 149) (i := (x)) (f := (mA S 5)) C 5 rfl (by omega) (by decide) dX5_doLine_149 (ws' := (MW G o a (sA S 5 (upd ((mA S 5)) (x) (((mA S 5) (x)) + ((mA S 5) (y))))))) rfl ?_
  refine v_iload_n (pc := 150) C dX5_doLine_150 rfl ?_
  refine v_iconst (pc := 151) (v := 1) C dX5_doLine_151 (by decide) ?_
  refine v_iaddN (pc := 152) C (l) 1 rfl rfl dX5_doLine_152 ?_
  exact v_iret (pc := 153) C dX5_doLine_153 (rfl) ((sA S 5 (upd ((mA S 5)) (x) (((mA S 5) (x)) + ((mA S 5) (y)))))) rfl (⟨rfl, rfl⟩)
set_option maxHeartbeats 4000000 in
set_option maxRecDepth 100000 in
theorem kX5_doLine_3 (G : TG) (o : Nat) (a : Nat → Nat) (S : MS) (p l : Nat) (mk : Int32) (hp : p < 10) (hl : l < 20) (x : Nat) (ho : mA S 0 (20 * p + l) = 3) (ex : mA S 1 (20 * p + l) = nI x) (hx : x < 4) (y : Nat) (hy : y < 4) : CT G yX5_doLine cX5_doLine 8 (some .int) rmX5_doLine 0 0 [.ref (o), .int (nI (p)), .int (nI (l)), .int (mk), .int (nI (y))] (MW G o a S) (fun S : MS => MW G o a S) (Ri (fun r S' => r = nI (l + 1) ∧ S' = sA S 5 (upd (mA S 5) x (if mk &&& 16 = 0 then mA S 5 x - mA S 5 y else mA S 5 y - mA S 5 x)))) := by
  refine CT.enter (by decide) (Nat.le_of_ble_eq_true rfl) (fun X C hnm => ?_)
  refine V.less [(0, .ref (o)), (1, .int (nI (p))), (2, .int (nI (l))), (3, .int (mk)), (4, .int (nI (y)))] ⟨rfl, rfl, rfl, rfl, rfl, trivial⟩ ?_
  refine v_aload_n (pc := 0) C dX5_doLine_0 rfl ?_
  refine v_get (pc := 1) (v := .ref (a 0)) C inX5 0 rfl rfl 0 (by decide) kw3_25 rfl dX5_doLine_1 ?_
  refine v_bipush (pc := 4) (v := 20) C dX5_doLine_4 (by decide) ?_
  refine v_iload_n (pc := 6) C dX5_doLine_6 rfl ?_
  refine v_imulN (pc := 7) C 20 (p) rfl rfl dX5_doLine_7 ?_
  refine v_iload_n (pc := 8) C dX5_doLine_8 rfl ?_
  refine v_iaddN (pc := 9) C (20 * (p)) (l) rfl rfl dX5_doLine_9 ?_
  refine v_ialdN (pc := 10) (i := ((20 * (p)) + (l))) (f := (mA S 0)) C 1 rfl (by omega) (by decide) dX5_doLine_10 ?_
  refine v_cv (y := (3 : Int32)) (ho) ?_
  refine v_istore (pc := 11) C dX5_doLine_11 (by decide) ?_
  refine v_aload_n (pc := 13) C dX5_doLine_13 rfl ?_
  refine v_get (pc := 14) (v := .ref (a 1)) C inX5 0 rfl rfl 1 (by decide) kw3_26 rfl dX5_doLine_14 ?_
  refine v_bipush (pc := 17) (v := 20) C dX5_doLine_17 (by decide) ?_
  refine v_iload_n (pc := 19) C dX5_doLine_19 rfl ?_
  refine v_imulN (pc := 20) C 20 (p) rfl rfl dX5_doLine_20 ?_
  refine v_iload_n (pc := 21) C dX5_doLine_21 rfl ?_
  refine v_iaddN (pc := 22) C (20 * (p)) (l) rfl rfl dX5_doLine_22 ?_
  refine v_ialdN (pc := 23) (i := ((20 * (p)) + (l))) (f := (mA S 1)) C 2 rfl (by omega) (by decide) dX5_doLine_23 ?_
  refine v_cv (y := (nI (x))) (ex) ?_
  refine v_istore (pc := 24) C dX5_doLine_24 (by decide) ?_
  refine v_iload (pc := 26) C dX5_doLine_26 rfl ?_
  refine v_tableIn (pc := 28) (tgt := 154) C dX5_doLine_28 (by decide) (by decide) rfl (by decide) ?_
  refine v_aload_n (pc := 154) C dX5_doLine_154 rfl ?_
  refine v_get (pc := 155) (v := .ref (a 5)) C inX5 0 rfl rfl 5 (by decide) kw3_30 rfl dX5_doLine_155 ?_
  refine v_iload (pc := 158) C dX5_doLine_158 rfl ?_
  refine v_iload_n (pc := 160) C dX5_doLine_160 rfl ?_
  refine v_bipush (pc := 161) (v := 16) C dX5_doLine_161 (by decide) ?_
  refine v_callS0 (pc := 163) (st := [.int (nI (x)), .ref (a 5)]) C (kX5_has G _ mk 16) ykX5_has kw3_174 kw3_173 dX5_doLine_163 rfl rfl rfl (by decide) (Nat.le_of_ble_eq_true rfl) (by decide) rfl (Ri_kk (fun r_163 u_163 h_163 => ?_))
  rcases (has01 h_163) with ⟨q_163, rfl⟩ | ⟨q_163, rfl⟩
  · refine v_if_eqT (pc := 166) (tgt := 187) C (by decide) dX5_doLine_166 (by decide) ?_
    refine v_aload_n (pc := 187) C dX5_doLine_187 rfl ?_
    refine v_get (pc := 188) (v := .ref (a 5)) C inX5 0 rfl rfl 5 (by decide) kw3_30 rfl dX5_doLine_188 ?_
    refine v_iload (pc := 191) C dX5_doLine_191 rfl ?_
    refine v_ialdN (pc := 193) (i := (x)) (f := (mA S 5)) C 5 rfl (by omega) (by decide) dX5_doLine_193 ?_
    refine v_aload_n (pc := 194) C dX5_doLine_194 rfl ?_
    refine v_get (pc := 195) (v := .ref (a 5)) C inX5 0 rfl rfl 5 (by decide) kw3_30 rfl dX5_doLine_195 ?_
    refine v_iload (pc := 198) C dX5_doLine_198 rfl ?_
    refine v_ialdN (pc := 200) (i := (y)) (f := (mA S 5)) C 5 rfl (by omega) (by decide) dX5_doLine_200 ?_
    refine v_isub (pc := 201) C dX5_doLine_201 ?_
    refine v_iastN (pc := 202) (i := (x)) (f := (mA S 5)) C 5 rfl (by omega) (by decide) dX5_doLine_202 (ws' := (MW G o a (sA S 5 (upd ((mA S 5)) (x) (((mA S 5) (x)) - ((mA S 5) (y))))))) rfl ?_
    refine v_iload_n (pc := 203) C dX5_doLine_203 rfl ?_
    refine v_iconst (pc := 204) (v := 1) C dX5_doLine_204 (by decide) ?_
    refine v_iaddN (pc := 205) C (l) 1 rfl rfl dX5_doLine_205 ?_
    exact v_iret (pc := 206) C dX5_doLine_206 (rfl) ((sA S 5 (upd ((mA S 5)) (x) (((mA S 5) (x)) - ((mA S 5) (y)))))) rfl (⟨rfl, by rw [if_pos q_163]⟩)
  · refine v_if_eqF (pc := 166) (tgt := 187) C (by decide) dX5_doLine_166 (by decide) ?_
    refine v_aload_n (pc := 169) C dX5_doLine_169 rfl ?_
    refine v_get (pc := 170) (v := .ref (a 5)) C inX5 0 rfl rfl 5 (by decide) kw3_30 rfl dX5_doLine_170 ?_
    refine v_iload (pc := 173) C dX5_doLine_173 rfl ?_
    refine v_ialdN (pc := 175) (i := (y)) (f := (mA S 5)) C 5 rfl (by omega) (by decide) dX5_doLine_175 ?_
    refine v_aload_n (pc := 176) C dX5_doLine_176 rfl ?_
    refine v_get (pc := 177) (v := .ref (a 5)) C inX5 0 rfl rfl 5 (by decide) kw3_30 rfl dX5_doLine_177 ?_
    refine v_iload (pc := 180) C dX5_doLine_180 rfl ?_
    refine v_ialdN (pc := 182) (i := (x)) (f := (mA S 5)) C 5 rfl (by omega) (by decide) dX5_doLine_182 ?_
    refine v_isub (pc := 183) C dX5_doLine_183 ?_
    refine v_goto (pc := 184) (tgt := 202) C dX5_doLine_184 (by decide) ?_
    refine v_iastN (pc := 202) (i := (x)) (f := (mA S 5)) C 5 rfl (by omega) (by decide) dX5_doLine_202 (ws' := (MW G o a (sA S 5 (upd ((mA S 5)) (x) (((mA S 5) (y)) - ((mA S 5) (x))))))) rfl ?_
    refine v_iload_n (pc := 203) C dX5_doLine_203 rfl ?_
    refine v_iconst (pc := 204) (v := 1) C dX5_doLine_204 (by decide) ?_
    refine v_iaddN (pc := 205) C (l) 1 rfl rfl dX5_doLine_205 ?_
    exact v_iret (pc := 206) C dX5_doLine_206 (rfl) ((sA S 5 (upd ((mA S 5)) (x) (((mA S 5) (y)) - ((mA S 5) (x)))))) rfl (⟨rfl, by rw [if_neg q_163]⟩)
set_option maxHeartbeats 4000000 in
set_option maxRecDepth 100000 in
theorem kX5_doLine_4 (G : TG) (o : Nat) (a : Nat → Nat) (S : MS) (p l : Nat) (mk : Int32) (hp : p < 10) (hl : l < 20) (x : Nat) (ho : mA S 0 (20 * p + l) = 4) (ex : mA S 1 (20 * p + l) = nI x) (hx : x < 4) (b : Int32) (e : Nat) (hm : Mt (fun k => mA S 0 (20 * p + k)) l e) (he : e < 20) : CT G yX5_doLine cX5_doLine 8 (some .int) rmX5_doLine 0 0 [.ref (o), .int (nI (p)), .int (nI (l)), .int (mk), .int (b)] (MW G o a S) (fun S : MS => MW G o a S) (Ri (fun r S' => r = nI (if 0 < (mA S 5 x).toInt64 then l + 1 else e + 1) ∧ S' = sL S (vp_updL (mL S) l ((mA S 5 x).toInt64 + (if 0 < (mA S 5 x).toInt64 ∧ ¬ mk &&& 2 = 0 then 1 else 0))))) := by
  refine CT.enter (by decide) (Nat.le_of_ble_eq_true rfl) (fun X C hnm => ?_)
  refine V.less [(0, .ref (o)), (1, .int (nI (p))), (2, .int (nI (l))), (3, .int (mk)), (4, .int (b))] ⟨rfl, rfl, rfl, rfl, rfl, trivial⟩ ?_
  refine v_aload_n (pc := 0) C dX5_doLine_0 rfl ?_
  refine v_get (pc := 1) (v := .ref (a 0)) C inX5 0 rfl rfl 0 (by decide) kw3_25 rfl dX5_doLine_1 ?_
  refine v_bipush (pc := 4) (v := 20) C dX5_doLine_4 (by decide) ?_
  refine v_iload_n (pc := 6) C dX5_doLine_6 rfl ?_
  refine v_imulN (pc := 7) C 20 (p) rfl rfl dX5_doLine_7 ?_
  refine v_iload_n (pc := 8) C dX5_doLine_8 rfl ?_
  refine v_iaddN (pc := 9) C (20 * (p)) (l) rfl rfl dX5_doLine_9 ?_
  refine v_ialdN (pc := 10) (i := ((20 * (p)) + (l))) (f := (mA S 0)) C 1 rfl (by omega) (by decide) dX5_doLine_10 ?_
  refine v_cv (y := (4 : Int32)) (ho) ?_
  refine v_istore (pc := 11) C dX5_doLine_11 (by decide) ?_
  refine v_aload_n (pc := 13) C dX5_doLine_13 rfl ?_
  refine v_get (pc := 14) (v := .ref (a 1)) C inX5 0 rfl rfl 1 (by decide) kw3_26 rfl dX5_doLine_14 ?_
  refine v_bipush (pc := 17) (v := 20) C dX5_doLine_17 (by decide) ?_
  refine v_iload_n (pc := 19) C dX5_doLine_19 rfl ?_
  refine v_imulN (pc := 20) C 20 (p) rfl rfl dX5_doLine_20 ?_
  refine v_iload_n (pc := 21) C dX5_doLine_21 rfl ?_
  refine v_iaddN (pc := 22) C (20 * (p)) (l) rfl rfl dX5_doLine_22 ?_
  refine v_ialdN (pc := 23) (i := ((20 * (p)) + (l))) (f := (mA S 1)) C 2 rfl (by omega) (by decide) dX5_doLine_23 ?_
  refine v_cv (y := (nI (x))) (ex) ?_
  refine v_istore (pc := 24) C dX5_doLine_24 (by decide) ?_
  refine v_iload (pc := 26) C dX5_doLine_26 rfl ?_
  refine v_tableIn (pc := 28) (tgt := 207) C dX5_doLine_28 (by decide) (by decide) rfl (by decide) ?_
  refine v_aload_n (pc := 207) C dX5_doLine_207 rfl ?_
  refine v_get (pc := 208) (v := .ref (a 8)) C inX5 0 rfl rfl 8 (by decide) kw3_33 rfl dX5_doLine_208 ?_
  refine v_iload_n (pc := 211) C dX5_doLine_211 rfl ?_
  refine v_aload_n (pc := 212) C dX5_doLine_212 rfl ?_
  refine v_get (pc := 213) (v := .ref (a 5)) C inX5 0 rfl rfl 5 (by decide) kw3_30 rfl dX5_doLine_213 ?_
  refine v_iload (pc := 216) C dX5_doLine_216 rfl ?_
  refine v_ialdN (pc := 218) (i := (x)) (f := (mA S 5)) C 5 rfl (by omega) (by decide) dX5_doLine_218 ?_
  refine v_i2l (pc := 219) C dX5_doLine_219 ?_
  refine v_lastN (pc := 220) (i := (l)) (f := (mL S)) C 8 rfl (by omega) (by decide) dX5_doLine_220 (ws' := (MW G o a (sL S (vp_updL ((mL S)) (l) (((mA S 5) (x)).toInt64))))) rfl ?_
  refine v_aload_n (pc := 221) C dX5_doLine_221 rfl ?_
  refine v_get (pc := 222) (v := .ref (a 8)) C inX5 0 rfl rfl 8 (by decide) kw3_33 rfl dX5_doLine_222 ?_
  refine v_iload_n (pc := 225) C dX5_doLine_225 rfl ?_
  refine v_dup2_11 (pc := 226) C dX5_doLine_226 rfl rfl ?_
  refine v_laldN (pc := 227) (i := (l)) (f := (vp_updL ((mL S)) (l) (((mA S 5) (x)).toInt64))) C 8 rfl (by omega) (by decide) dX5_doLine_227 ?_
  refine v_aload_n (pc := 228) C dX5_doLine_228 rfl ?_
  refine v_get (pc := 229) (v := .ref (a 8)) C inX5 0 rfl rfl 8 (by decide) kw3_33 rfl dX5_doLine_229 ?_
  refine v_iload_n (pc := 232) C dX5_doLine_232 rfl ?_
  refine v_laldN (pc := 233) (i := (l)) (f := (vp_updL ((mL S)) (l) (((mA S 5) (x)).toInt64))) C 8 rfl (by omega) (by decide) dX5_doLine_233 ?_
  refine v_lconst (pc := 234) (v := 0) C dX5_doLine_234 (by decide) ?_
  refine v_lcmp (pc := 235) C dX5_doLine_235 ?_
  refine v_if_le (pc := 236) (tgt := 251) C dX5_doLine_236 (by decide) (fun c_236 => ?_) (fun c_236 => ?_)
  · refine v_lconst (pc := 251) (v := 0) C dX5_doLine_251 (by decide) ?_
    refine v_ladd (pc := 252) C dX5_doLine_252 ?_
    refine v_lastN (pc := 253) (i := (l)) (f := (vp_updL ((mL S)) (l) (((mA S 5) (x)).toInt64))) C 8 rfl (by omega) (by decide) dX5_doLine_253 (ws' := (MW G o a (sL S (vp_updL ((vp_updL ((mL S)) (l) (((mA S 5) (x)).toInt64))) (l) (((vp_updL ((mL S)) (l) (((mA S 5) (x)).toInt64)) (l)) + ((0 : Int64))))))) rfl ?_
    refine v_aload_n (pc := 254) C dX5_doLine_254 rfl ?_
    refine v_get (pc := 255) (v := .ref (a 8)) C inX5 0 rfl rfl 8 (by decide) kw3_33 rfl dX5_doLine_255 ?_
    refine v_iload_n (pc := 258) C dX5_doLine_258 rfl ?_
    refine v_laldN (pc := 259) (i := (l)) (f := (vp_updL ((vp_updL ((mL S)) (l) (((mA S 5) (x)).toInt64))) (l) (((vp_updL ((mL S)) (l) (((mA S 5) (x)).toInt64)) (l)) + ((0 : Int64))))) C 8 rfl (by omega) (by decide) dX5_doLine_259 ?_
    refine v_lconst (pc := 260) (v := 0) C dX5_doLine_260 (by decide) ?_
    refine v_lcmp (pc := 261) C dX5_doLine_261 ?_
    refine v_if_le (pc := 262) (tgt := 271) C dX5_doLine_262 (by decide) (fun c_262 => ?_) (fun c_262 => ?_)
    · refine v_aload_n (pc := 271) C dX5_doLine_271 rfl ?_
      refine v_iload_n (pc := 272) C dX5_doLine_272 rfl ?_
      refine v_iload_n (pc := 273) C dX5_doLine_273 rfl ?_
      refine v_callV0 (pc := 274) (st := []) (q0 := 0) C (kX5_endOf G o a (sL S (vp_updL ((vp_updL ((mL S)) (l) (((mA S 5) (x)).toInt64))) (l) (((vp_updL ((mL S)) (l) (((mA S 5) (x)).toInt64)) (l)) + ((0 : Int64))))) p l e hp hm he) ykX5_endOf cvX5_endOf kw3_176 dX5_doLine_274 rfl rfl rfl rfl rfl (by decide) (Nat.le_of_ble_eq_true rfl) (by decide) rfl (Ri_kk (fun r_274 u_274 h_274 => ?_))
      obtain ⟨e_274, rfl⟩ := h_274
      rw [e_274]
      refine v_iconst (pc := 277) (v := 1) C dX5_doLine_277 (by decide) ?_
      refine v_iaddN (pc := 278) C (e) 1 rfl rfl dX5_doLine_278 ?_
      have h0 : ¬ 0 < (mA S 5 x).toInt64 := lgc_le.mp (by simpa [vp_updL] using c_236)
      exact v_iret (pc := 279) C dX5_doLine_279 (rfl) ((sL S (vp_updL ((vp_updL ((mL S)) (l) (((mA S 5) (x)).toInt64))) (l) (((vp_updL ((mL S)) (l) (((mA S 5) (x)).toInt64)) (l)) + ((0 : Int64)))))) rfl (⟨by rw [if_neg h0], by rw [updL2, if_neg (fun z => h0 z.1)]; simp [vp_updL]⟩)
    · exact absurd (by have q := c_236; simp only [vp_updL, if_pos rfl, ite_true] at q ⊢; simpa using q) c_262
  · refine v_iload_n (pc := 239) C dX5_doLine_239 rfl ?_
    refine v_iconst (pc := 240) (v := 2) C dX5_doLine_240 (by decide) ?_
    refine v_callS0 (pc := 241) (st := [.long ((vp_updL ((mL S)) (l) (((mA S 5) (x)).toInt64)) (l)), .int (nI (l)), .ref (a 8)]) C (kX5_has G _ mk 2) ykX5_has kw3_174 kw3_173 dX5_doLine_241 rfl rfl rfl (by decide) (Nat.le_of_ble_eq_true rfl) (by decide) rfl (Ri_kk (fun r_241 u_241 h_241 => ?_))
    rcases (has01 h_241) with ⟨q_241, rfl⟩ | ⟨q_241, rfl⟩
    · refine v_if_eqT (pc := 244) (tgt := 251) C (by decide) dX5_doLine_244 (by decide) ?_
      refine v_lconst (pc := 251) (v := 0) C dX5_doLine_251 (by decide) ?_
      refine v_ladd (pc := 252) C dX5_doLine_252 ?_
      refine v_lastN (pc := 253) (i := (l)) (f := (vp_updL ((mL S)) (l) (((mA S 5) (x)).toInt64))) C 8 rfl (by omega) (by decide) dX5_doLine_253 (ws' := (MW G o a (sL S (vp_updL ((vp_updL ((mL S)) (l) (((mA S 5) (x)).toInt64))) (l) (((vp_updL ((mL S)) (l) (((mA S 5) (x)).toInt64)) (l)) + ((0 : Int64))))))) rfl ?_
      refine v_aload_n (pc := 254) C dX5_doLine_254 rfl ?_
      refine v_get (pc := 255) (v := .ref (a 8)) C inX5 0 rfl rfl 8 (by decide) kw3_33 rfl dX5_doLine_255 ?_
      refine v_iload_n (pc := 258) C dX5_doLine_258 rfl ?_
      refine v_laldN (pc := 259) (i := (l)) (f := (vp_updL ((vp_updL ((mL S)) (l) (((mA S 5) (x)).toInt64))) (l) (((vp_updL ((mL S)) (l) (((mA S 5) (x)).toInt64)) (l)) + ((0 : Int64))))) C 8 rfl (by omega) (by decide) dX5_doLine_259 ?_
      refine v_lconst (pc := 260) (v := 0) C dX5_doLine_260 (by decide) ?_
      refine v_lcmp (pc := 261) C dX5_doLine_261 ?_
      refine v_if_le (pc := 262) (tgt := 271) C dX5_doLine_262 (by decide) (fun c_262 => ?_) (fun c_262 => ?_)
      · exact absurd (by have q := c_262; simp only [vp_updL, if_pos rfl, ite_true] at q ⊢; simpa using q) c_236
      · refine v_iload_n (pc := 265) C dX5_doLine_265 rfl ?_
        refine v_iconst (pc := 266) (v := 1) C dX5_doLine_266 (by decide) ?_
        refine v_iaddN (pc := 267) C (l) 1 rfl rfl dX5_doLine_267 ?_
        refine v_goto (pc := 268) (tgt := 279) C dX5_doLine_268 (by decide) ?_
        have h0 : 0 < (mA S 5 x).toInt64 := Classical.byContradiction (fun z => c_236 (lgc_le.mpr (by simpa [vp_updL] using z)))
        exact v_iret (pc := 279) C dX5_doLine_279 (rfl) ((sL S (vp_updL ((vp_updL ((mL S)) (l) (((mA S 5) (x)).toInt64))) (l) (((vp_updL ((mL S)) (l) (((mA S 5) (x)).toInt64)) (l)) + ((0 : Int64)))))) rfl (⟨by rw [if_pos h0], by rw [updL2, if_neg (fun z => z.2 q_241)]; simp [vp_updL]⟩)
    · refine v_if_eqF (pc := 244) (tgt := 251) C (by decide) dX5_doLine_244 (by decide) ?_
      refine v_lconst (pc := 247) (v := 1) C dX5_doLine_247 (by decide) ?_
      refine v_goto (pc := 248) (tgt := 252) C dX5_doLine_248 (by decide) ?_
      refine v_ladd (pc := 252) C dX5_doLine_252 ?_
      refine v_lastN (pc := 253) (i := (l)) (f := (vp_updL ((mL S)) (l) (((mA S 5) (x)).toInt64))) C 8 rfl (by omega) (by decide) dX5_doLine_253 (ws' := (MW G o a (sL S (vp_updL ((vp_updL ((mL S)) (l) (((mA S 5) (x)).toInt64))) (l) (((vp_updL ((mL S)) (l) (((mA S 5) (x)).toInt64)) (l)) + ((1 : Int64))))))) rfl ?_
      refine v_aload_n (pc := 254) C dX5_doLine_254 rfl ?_
      refine v_get (pc := 255) (v := .ref (a 8)) C inX5 0 rfl rfl 8 (by decide) kw3_33 rfl dX5_doLine_255 ?_
      refine v_iload_n (pc := 258) C dX5_doLine_258 rfl ?_
      refine v_laldN (pc := 259) (i := (l)) (f := (vp_updL ((vp_updL ((mL S)) (l) (((mA S 5) (x)).toInt64))) (l) (((vp_updL ((mL S)) (l) (((mA S 5) (x)).toInt64)) (l)) + ((1 : Int64))))) C 8 rfl (by omega) (by decide) dX5_doLine_259 ?_
      refine v_lconst (pc := 260) (v := 0) C dX5_doLine_260 (by decide) ?_
      refine v_lcmp (pc := 261) C dX5_doLine_261 ?_
      refine v_if_le (pc := 262) (tgt := 271) C dX5_doLine_262 (by decide) (fun c_262 => ?_) (fun c_262 => ?_)
      · exact absurd (pos1 (x := mA S 5 x) (Classical.byContradiction (fun z => c_236 (lgc_le.mpr (by simpa [vp_updL] using z))))) (lgc_le.mp (by simpa [vp_updL] using c_262))
      · refine v_iload_n (pc := 265) C dX5_doLine_265 rfl ?_
        refine v_iconst (pc := 266) (v := 1) C dX5_doLine_266 (by decide) ?_
        refine v_iaddN (pc := 267) C (l) 1 rfl rfl dX5_doLine_267 ?_
        refine v_goto (pc := 268) (tgt := 279) C dX5_doLine_268 (by decide) ?_
        have h0 : 0 < (mA S 5 x).toInt64 := Classical.byContradiction (fun z => c_236 (lgc_le.mpr (by simpa [vp_updL] using z)))
        exact v_iret (pc := 279) C dX5_doLine_279 (rfl) ((sL S (vp_updL ((vp_updL ((mL S)) (l) (((mA S 5) (x)).toInt64))) (l) (((vp_updL ((mL S)) (l) (((mA S 5) (x)).toInt64)) (l)) + ((1 : Int64)))))) rfl (⟨by rw [if_pos h0], by rw [updL2, if_pos ⟨h0, q_241⟩]; simp [vp_updL]⟩)
set_option maxHeartbeats 4000000 in
set_option maxRecDepth 100000 in
theorem kX5_doLine_5 (G : TG) (o : Nat) (a : Nat → Nat) (S : MS) (p l : Nat) (mk : Int32) (hp : p < 10) (hl : l < 20) (x : Nat) (ho : mA S 0 (20 * p + l) = 5) (ex : mA S 1 (20 * p + l) = nI x) (hx : x < 4) (y : Nat) (hy : y < 4) (e : Nat) (hm : Mt (fun k => mA S 0 (20 * p + k)) l e) (he : e < 20) : CT G yX5_doLine cX5_doLine 8 (some .int) rmX5_doLine 0 0 [.ref (o), .int (nI (p)), .int (nI (l)), .int (mk), .int (nI (y))] (MW G o a S) (fun S : MS => MW G o a S) (Ri (fun r S' => r = nI (if mA S 5 x < mA S 5 y ∨ (¬ mk &&& 8 = 0 ∧ mA S 5 x = mA S 5 y) then l + 1 else e + 1) ∧ S' = S)) := by
  refine CT.enter (by decide) (Nat.le_of_ble_eq_true rfl) (fun X C hnm => ?_)
  refine V.less [(0, .ref (o)), (1, .int (nI (p))), (2, .int (nI (l))), (3, .int (mk)), (4, .int (nI (y)))] ⟨rfl, rfl, rfl, rfl, rfl, trivial⟩ ?_
  refine v_aload_n (pc := 0) C dX5_doLine_0 rfl ?_
  refine v_get (pc := 1) (v := .ref (a 0)) C inX5 0 rfl rfl 0 (by decide) kw3_25 rfl dX5_doLine_1 ?_
  refine v_bipush (pc := 4) (v := 20) C dX5_doLine_4 (by decide) ?_
  refine v_iload_n (pc := 6) C dX5_doLine_6 rfl ?_
  refine v_imulN (pc := 7) C 20 (p) rfl rfl dX5_doLine_7 ?_
  refine v_iload_n (pc := 8) C dX5_doLine_8 rfl ?_
  refine v_iaddN (pc := 9) C (20 * (p)) (l) rfl rfl dX5_doLine_9 ?_
  refine v_ialdN (pc := 10) (i := ((20 * (p)) + (l))) (f := (mA S 0)) C 1 rfl (by omega) (by decide) dX5_doLine_10 ?_
  refine v_cv (y := (5 : Int32)) (ho) ?_
  refine v_istore (pc := 11) C dX5_doLine_11 (by decide) ?_
  refine v_aload_n (pc := 13) C dX5_doLine_13 rfl ?_
  refine v_get (pc := 14) (v := .ref (a 1)) C inX5 0 rfl rfl 1 (by decide) kw3_26 rfl dX5_doLine_14 ?_
  refine v_bipush (pc := 17) (v := 20) C dX5_doLine_17 (by decide) ?_
  refine v_iload_n (pc := 19) C dX5_doLine_19 rfl ?_
  refine v_imulN (pc := 20) C 20 (p) rfl rfl dX5_doLine_20 ?_
  refine v_iload_n (pc := 21) C dX5_doLine_21 rfl ?_
  refine v_iaddN (pc := 22) C (20 * (p)) (l) rfl rfl dX5_doLine_22 ?_
  refine v_ialdN (pc := 23) (i := ((20 * (p)) + (l))) (f := (mA S 1)) C 2 rfl (by omega) (by decide) dX5_doLine_23 ?_
  refine v_cv (y := (nI (x))) (ex) ?_
  refine v_istore (pc := 24) C dX5_doLine_24 (by decide) ?_
  refine v_iload (pc := 26) C dX5_doLine_26 rfl ?_
  refine v_tableIn (pc := 28) (tgt := 280) C dX5_doLine_28 (by decide) (by decide) rfl (by decide) ?_
  refine v_aload_n (pc := 280) C dX5_doLine_280 rfl ?_
  refine v_get (pc := 281) (v := .ref (a 5)) C inX5 0 rfl rfl 5 (by decide) kw3_30 rfl dX5_doLine_281 ?_
  refine v_iload (pc := 284) C dX5_doLine_284 rfl ?_
  refine v_ialdN (pc := 286) (i := (x)) (f := (mA S 5)) C 5 rfl (by omega) (by decide) dX5_doLine_286 ?_
  refine v_aload_n (pc := 287) C dX5_doLine_287 rfl ?_
  refine v_get (pc := 288) (v := .ref (a 5)) C inX5 0 rfl rfl 5 (by decide) kw3_30 rfl dX5_doLine_288 ?_
  refine v_iload (pc := 291) C dX5_doLine_291 rfl ?_
  refine v_ialdN (pc := 293) (i := (y)) (f := (mA S 5)) C 5 rfl (by omega) (by decide) dX5_doLine_293 ?_
  refine v_icmp_lt (pc := 294) (tgt := 323) C dX5_doLine_294 (by decide) (fun c_294 => ?_) (fun c_294 => ?_)
  · refine v_iconst (pc := 323) (v := 1) C dX5_doLine_323 (by decide) ?_
    refine v_goto (pc := 324) (tgt := 328) C dX5_doLine_324 (by decide) ?_
    refine v_istore (pc := 328) C dX5_doLine_328 (by decide) ?_
    refine v_iload (pc := 330) C dX5_doLine_330 rfl ?_
    refine v_if_eqF (pc := 332) (tgt := 341) C (by decide) dX5_doLine_332 (by decide) ?_
    refine v_iload_n (pc := 335) C dX5_doLine_335 rfl ?_
    refine v_iconst (pc := 336) (v := 1) C dX5_doLine_336 (by decide) ?_
    refine v_iaddN (pc := 337) C (l) 1 rfl rfl dX5_doLine_337 ?_
    refine v_goto (pc := 338) (tgt := 349) C dX5_doLine_338 (by decide) ?_
    exact v_iret (pc := 349) C dX5_doLine_349 (rfl) (S) rfl (⟨by rw [if_pos (Or.inl c_294)], rfl⟩)
  · refine v_iload_n (pc := 297) C dX5_doLine_297 rfl ?_
    refine v_bipush (pc := 298) (v := 8) C dX5_doLine_298 (by decide) ?_
    refine v_callS0 (pc := 300) (st := []) C (kX5_has G _ mk 8) ykX5_has kw3_174 kw3_173 dX5_doLine_300 rfl rfl rfl (by decide) (Nat.le_of_ble_eq_true rfl) (by decide) rfl (Ri_kk (fun r_300 u_300 h_300 => ?_))
    rcases (has01 h_300) with ⟨q_300, rfl⟩ | ⟨q_300, rfl⟩
    · refine v_if_eqT (pc := 303) (tgt := 327) C (by decide) dX5_doLine_303 (by decide) ?_
      refine v_iconst (pc := 327) (v := 0) C dX5_doLine_327 (by decide) ?_
      refine v_istore (pc := 328) C dX5_doLine_328 (by decide) ?_
      refine v_iload (pc := 330) C dX5_doLine_330 rfl ?_
      refine v_if_eqT (pc := 332) (tgt := 341) C (by decide) dX5_doLine_332 (by decide) ?_
      refine v_aload_n (pc := 341) C dX5_doLine_341 rfl ?_
      refine v_iload_n (pc := 342) C dX5_doLine_342 rfl ?_
      refine v_iload_n (pc := 343) C dX5_doLine_343 rfl ?_
      refine v_callV0 (pc := 344) (st := []) (q0 := 0) C (kX5_endOf G o a S p l e hp hm he) ykX5_endOf cvX5_endOf kw3_176 dX5_doLine_344 rfl rfl rfl rfl rfl (by decide) (Nat.le_of_ble_eq_true rfl) (by decide) rfl (Ri_kk (fun r_344 u_344 h_344 => ?_))
      obtain ⟨e_344, rfl⟩ := h_344
      rw [e_344]
      refine v_iconst (pc := 347) (v := 1) C dX5_doLine_347 (by decide) ?_
      refine v_iaddN (pc := 348) C (e) 1 rfl rfl dX5_doLine_348 ?_
      exact v_iret (pc := 349) C dX5_doLine_349 (rfl) (S) rfl (⟨by rw [if_neg (fun z => z.elim c_294 (fun z => z.1 q_300))], rfl⟩)
    · refine v_if_eqF (pc := 303) (tgt := 327) C (by decide) dX5_doLine_303 (by decide) ?_
      refine v_aload_n (pc := 306) C dX5_doLine_306 rfl ?_
      refine v_get (pc := 307) (v := .ref (a 5)) C inX5 0 rfl rfl 5 (by decide) kw3_30 rfl dX5_doLine_307 ?_
      refine v_iload (pc := 310) C dX5_doLine_310 rfl ?_
      refine v_ialdN (pc := 312) (i := (x)) (f := (mA S 5)) C 5 rfl (by omega) (by decide) dX5_doLine_312 ?_
      refine v_aload_n (pc := 313) C dX5_doLine_313 rfl ?_
      refine v_get (pc := 314) (v := .ref (a 5)) C inX5 0 rfl rfl 5 (by decide) kw3_30 rfl dX5_doLine_314 ?_
      refine v_iload (pc := 317) C dX5_doLine_317 rfl ?_
      refine v_ialdN (pc := 319) (i := (y)) (f := (mA S 5)) C 5 rfl (by omega) (by decide) dX5_doLine_319 ?_
      refine v_icmp_ne (pc := 320) (tgt := 327) C dX5_doLine_320 (by decide) (fun c_320 => ?_) (fun c_320 => ?_)
      · refine v_iconst (pc := 327) (v := 0) C dX5_doLine_327 (by decide) ?_
        refine v_istore (pc := 328) C dX5_doLine_328 (by decide) ?_
        refine v_iload (pc := 330) C dX5_doLine_330 rfl ?_
        refine v_if_eqT (pc := 332) (tgt := 341) C (by decide) dX5_doLine_332 (by decide) ?_
        refine v_aload_n (pc := 341) C dX5_doLine_341 rfl ?_
        refine v_iload_n (pc := 342) C dX5_doLine_342 rfl ?_
        refine v_iload_n (pc := 343) C dX5_doLine_343 rfl ?_
        refine v_callV0 (pc := 344) (st := []) (q0 := 0) C (kX5_endOf G o a S p l e hp hm he) ykX5_endOf cvX5_endOf kw3_176 dX5_doLine_344 rfl rfl rfl rfl rfl (by decide) (Nat.le_of_ble_eq_true rfl) (by decide) rfl (Ri_kk (fun r_344 u_344 h_344 => ?_))
        obtain ⟨e_344, rfl⟩ := h_344
        rw [e_344]
        refine v_iconst (pc := 347) (v := 1) C dX5_doLine_347 (by decide) ?_
        refine v_iaddN (pc := 348) C (e) 1 rfl rfl dX5_doLine_348 ?_
        exact v_iret (pc := 349) C dX5_doLine_349 (rfl) (S) rfl (⟨by rw [if_neg (fun z => z.elim c_294 (fun z => c_320 z.2))], rfl⟩)
      · refine v_iconst (pc := 323) (v := 1) C dX5_doLine_323 (by decide) ?_
        refine v_goto (pc := 324) (tgt := 328) C dX5_doLine_324 (by decide) ?_
        refine v_istore (pc := 328) C dX5_doLine_328 (by decide) ?_
        refine v_iload (pc := 330) C dX5_doLine_330 rfl ?_
        refine v_if_eqF (pc := 332) (tgt := 341) C (by decide) dX5_doLine_332 (by decide) ?_
        refine v_iload_n (pc := 335) C dX5_doLine_335 rfl ?_
        refine v_iconst (pc := 336) (v := 1) C dX5_doLine_336 (by decide) ?_
        refine v_iaddN (pc := 337) C (l) 1 rfl rfl dX5_doLine_337 ?_
        refine v_goto (pc := 338) (tgt := 349) C dX5_doLine_338 (by decide) ?_
        exact v_iret (pc := 349) C dX5_doLine_349 (rfl) (S) rfl (⟨by rw [if_pos (Or.inr ⟨q_300, c_320⟩)], rfl⟩)
set_option maxHeartbeats 4000000 in
set_option maxRecDepth 100000 in
theorem kX5_doLine_6 (G : TG) (o : Nat) (a : Nat → Nat) (S : MS) (p l : Nat) (mk : Int32) (hp : p < 10) (hl : l < 20) (x : Int32) (ho : mA S 0 (20 * p + l) = 6) (ex : mA S 1 (20 * p + l) = x) (b : Int32) (i : Nat) (hm : Mt (fun k => mA S 0 (20 * p + k)) i l) (hw : wfd (fun k => mA S 0 (20 * p + k)) (l + 1)) : CT G yX5_doLine cX5_doLine 8 (some .int) rmX5_doLine 0 0 [.ref (o), .int (nI (p)), .int (nI (l)), .int (mk), .int (b)] (MW G o a S) (fun S : MS => MW G o a S) (Ri (fun r S' => (mA S 0 (20 * p + i) = 5 → r = nI (l + 1) ∧ S' = S) ∧ (¬ mA S 0 (20 * p + i) = 5 → r = nI (if 0 < mL S i - 1 then i + 1 else l + 1) ∧ S' = sL S (vp_updL (mL S) i (mL S i - 1))))) := by
  refine CT.enter (by decide) (Nat.le_of_ble_eq_true rfl) (fun X C hnm => ?_)
  refine V.less [(0, .ref (o)), (1, .int (nI (p))), (2, .int (nI (l))), (3, .int (mk)), (4, .int (b))] ⟨rfl, rfl, rfl, rfl, rfl, trivial⟩ ?_
  refine v_aload_n (pc := 0) C dX5_doLine_0 rfl ?_
  refine v_get (pc := 1) (v := .ref (a 0)) C inX5 0 rfl rfl 0 (by decide) kw3_25 rfl dX5_doLine_1 ?_
  refine v_bipush (pc := 4) (v := 20) C dX5_doLine_4 (by decide) ?_
  refine v_iload_n (pc := 6) C dX5_doLine_6 rfl ?_
  refine v_imulN (pc := 7) C 20 (p) rfl rfl dX5_doLine_7 ?_
  refine v_iload_n (pc := 8) C dX5_doLine_8 rfl ?_
  refine v_iaddN (pc := 9) C (20 * (p)) (l) rfl rfl dX5_doLine_9 ?_
  refine v_ialdN (pc := 10) (i := ((20 * (p)) + (l))) (f := (mA S 0)) C 1 rfl (by omega) (by decide) dX5_doLine_10 ?_
  refine v_cv (y := (6 : Int32)) (ho) ?_
  refine v_istore (pc := 11) C dX5_doLine_11 (by decide) ?_
  refine v_aload_n (pc := 13) C dX5_doLine_13 rfl ?_
  refine v_get (pc := 14) (v := .ref (a 1)) C inX5 0 rfl rfl 1 (by decide) kw3_26 rfl dX5_doLine_14 ?_
  refine v_bipush (pc := 17) (v := 20) C dX5_doLine_17 (by decide) ?_
  refine v_iload_n (pc := 19) C dX5_doLine_19 rfl ?_
  refine v_imulN (pc := 20) C 20 (p) rfl rfl dX5_doLine_20 ?_
  refine v_iload_n (pc := 21) C dX5_doLine_21 rfl ?_
  refine v_iaddN (pc := 22) C (20 * (p)) (l) rfl rfl dX5_doLine_22 ?_
  refine v_ialdN (pc := 23) (i := ((20 * (p)) + (l))) (f := (mA S 1)) C 2 rfl (by omega) (by decide) dX5_doLine_23 ?_
  refine v_cv (y := (x)) (ex) ?_
  refine v_istore (pc := 24) C dX5_doLine_24 (by decide) ?_
  refine v_iload (pc := 26) C dX5_doLine_26 rfl ?_
  refine v_tableIn (pc := 28) (tgt := 350) C dX5_doLine_28 (by decide) (by decide) rfl (by decide) ?_
  refine v_aload_n (pc := 350) C dX5_doLine_350 rfl ?_
  refine v_iload_n (pc := 351) C dX5_doLine_351 rfl ?_
  refine v_iload_n (pc := 352) C dX5_doLine_352 rfl ?_
  refine v_callV0 (pc := 353) (st := []) (q0 := 0) C (kX5_ended G o a S p i l hp hm hl hw) ykX5_ended cvX5_ended kw3_180 dX5_doLine_353 rfl rfl rfl rfl rfl (by decide) (Nat.le_of_ble_eq_true rfl) (by decide) rfl (Ri_kk (fun r_353 u_353 h_353 => ?_))
  exact v_iret (pc := 356) C dX5_doLine_356 (rfl) (u_353) rfl (h_353)
set_option maxHeartbeats 4000000 in
set_option maxRecDepth 100000 in
theorem kX5_doLine_7 (G : TG) (o : Nat) (a : Nat → Nat) (S : MS) (p l : Nat) (mk : Int32) (hp : p < 10) (hl : l < 20) (x : Nat) (ho : mA S 0 (20 * p + l) = 7) (ex : mA S 1 (20 * p + l) = nI x) (hx : x < 8) (y : Nat) (hy : y < 4) (hr : okr (mA S 7)) : CT G yX5_doLine cX5_doLine 8 (some .int) rmX5_doLine 0 0 [.ref (o), .int (nI (p)), .int (nI (l)), .int (mk), .int (nI (y))] (MW G o a S) (fun S : MS => MW G o a S) (Ri (fun r S' => r = nI (l + 1) ∧ S' = sA S 6 (upd (mA S 6) (4 * tn (mA S 7 (x / 4)) + tn (mA S 5 (x % 4) &&& 3)) (mA S 5 y)))) := by
  refine CT.enter (by decide) (Nat.le_of_ble_eq_true rfl) (fun X C hnm => ?_)
  refine V.less [(0, .ref (o)), (1, .int (nI (p))), (2, .int (nI (l))), (3, .int (mk)), (4, .int (nI (y)))] ⟨rfl, rfl, rfl, rfl, rfl, trivial⟩ ?_
  refine v_aload_n (pc := 0) C dX5_doLine_0 rfl ?_
  refine v_get (pc := 1) (v := .ref (a 0)) C inX5 0 rfl rfl 0 (by decide) kw3_25 rfl dX5_doLine_1 ?_
  refine v_bipush (pc := 4) (v := 20) C dX5_doLine_4 (by decide) ?_
  refine v_iload_n (pc := 6) C dX5_doLine_6 rfl ?_
  refine v_imulN (pc := 7) C 20 (p) rfl rfl dX5_doLine_7 ?_
  refine v_iload_n (pc := 8) C dX5_doLine_8 rfl ?_
  refine v_iaddN (pc := 9) C (20 * (p)) (l) rfl rfl dX5_doLine_9 ?_
  refine v_ialdN (pc := 10) (i := ((20 * (p)) + (l))) (f := (mA S 0)) C 1 rfl (by omega) (by decide) dX5_doLine_10 ?_
  refine v_cv (y := (7 : Int32)) (ho) ?_
  refine v_istore (pc := 11) C dX5_doLine_11 (by decide) ?_
  refine v_aload_n (pc := 13) C dX5_doLine_13 rfl ?_
  refine v_get (pc := 14) (v := .ref (a 1)) C inX5 0 rfl rfl 1 (by decide) kw3_26 rfl dX5_doLine_14 ?_
  refine v_bipush (pc := 17) (v := 20) C dX5_doLine_17 (by decide) ?_
  refine v_iload_n (pc := 19) C dX5_doLine_19 rfl ?_
  refine v_imulN (pc := 20) C 20 (p) rfl rfl dX5_doLine_20 ?_
  refine v_iload_n (pc := 21) C dX5_doLine_21 rfl ?_
  refine v_iaddN (pc := 22) C (20 * (p)) (l) rfl rfl dX5_doLine_22 ?_
  refine v_ialdN (pc := 23) (i := ((20 * (p)) + (l))) (f := (mA S 1)) C 2 rfl (by omega) (by decide) dX5_doLine_23 ?_
  refine v_cv (y := (nI (x))) (ex) ?_
  refine v_istore (pc := 24) C dX5_doLine_24 (by decide) ?_
  refine v_iload (pc := 26) C dX5_doLine_26 rfl ?_
  refine v_tableOut (pc := 28) (tgt := 357) C dX5_doLine_28 (by decide) (by decide) ?_
  refine v_aload_n (pc := 357) C dX5_doLine_357 rfl ?_
  refine v_iload (pc := 358) C dX5_doLine_358 rfl ?_
  refine v_iload (pc := 360) C dX5_doLine_360 rfl ?_
  refine v_iload (pc := 362) C dX5_doLine_362 rfl ?_
  refine v_iload_n (pc := 364) C dX5_doLine_364 rfl ?_
  refine v_callV0 (pc := 365) (st := []) (q0 := 0) C (kX5_rows_7 G o a S x y mk hr hx hy) ykX5_rows cvX5_rows kw3_188 dX5_doLine_365 rfl rfl rfl rfl rfl (by decide) (Nat.le_of_ble_eq_true rfl) (by decide) rfl (Rv_kk (fun u_365 h_365 => ?_))
  refine v_iload_n (pc := 368) C dX5_doLine_368 rfl ?_
  refine v_iconst (pc := 369) (v := 1) C dX5_doLine_369 (by decide) ?_
  refine v_iaddN (pc := 370) C (l) 1 rfl rfl dX5_doLine_370 ?_
  exact v_iret (pc := 371) C dX5_doLine_371 (rfl) (u_365) rfl (⟨rfl, h_365⟩)
set_option maxHeartbeats 4000000 in
set_option maxRecDepth 100000 in
theorem kX5_doLine_8 (G : TG) (o : Nat) (a : Nat → Nat) (S : MS) (p l : Nat) (mk : Int32) (hp : p < 10) (hl : l < 20) (x : Nat) (ho : mA S 0 (20 * p + l) = 8) (ex : mA S 1 (20 * p + l) = nI x) (hx : x < 4) (y : Nat) (hy : y < 8) (hr : okr (mA S 7)) : CT G yX5_doLine cX5_doLine 8 (some .int) rmX5_doLine 0 0 [.ref (o), .int (nI (p)), .int (nI (l)), .int (mk), .int (nI (y))] (MW G o a S) (fun S : MS => MW G o a S) (Ri (fun r S' => r = nI (l + 1) ∧ S' = sA S 5 (upd (mA S 5) x (mA S 6 (4 * tn (mA S 7 (y / 4)) + tn ((mA S 5 (y % 4) + (if mk &&& 32 = 0 then 0 else 1)) &&& 3)))))) := by
  refine CT.enter (by decide) (Nat.le_of_ble_eq_true rfl) (fun X C hnm => ?_)
  refine V.less [(0, .ref (o)), (1, .int (nI (p))), (2, .int (nI (l))), (3, .int (mk)), (4, .int (nI (y)))] ⟨rfl, rfl, rfl, rfl, rfl, trivial⟩ ?_
  refine v_aload_n (pc := 0) C dX5_doLine_0 rfl ?_
  refine v_get (pc := 1) (v := .ref (a 0)) C inX5 0 rfl rfl 0 (by decide) kw3_25 rfl dX5_doLine_1 ?_
  refine v_bipush (pc := 4) (v := 20) C dX5_doLine_4 (by decide) ?_
  refine v_iload_n (pc := 6) C dX5_doLine_6 rfl ?_
  refine v_imulN (pc := 7) C 20 (p) rfl rfl dX5_doLine_7 ?_
  refine v_iload_n (pc := 8) C dX5_doLine_8 rfl ?_
  refine v_iaddN (pc := 9) C (20 * (p)) (l) rfl rfl dX5_doLine_9 ?_
  refine v_ialdN (pc := 10) (i := ((20 * (p)) + (l))) (f := (mA S 0)) C 1 rfl (by omega) (by decide) dX5_doLine_10 ?_
  refine v_cv (y := (8 : Int32)) (ho) ?_
  refine v_istore (pc := 11) C dX5_doLine_11 (by decide) ?_
  refine v_aload_n (pc := 13) C dX5_doLine_13 rfl ?_
  refine v_get (pc := 14) (v := .ref (a 1)) C inX5 0 rfl rfl 1 (by decide) kw3_26 rfl dX5_doLine_14 ?_
  refine v_bipush (pc := 17) (v := 20) C dX5_doLine_17 (by decide) ?_
  refine v_iload_n (pc := 19) C dX5_doLine_19 rfl ?_
  refine v_imulN (pc := 20) C 20 (p) rfl rfl dX5_doLine_20 ?_
  refine v_iload_n (pc := 21) C dX5_doLine_21 rfl ?_
  refine v_iaddN (pc := 22) C (20 * (p)) (l) rfl rfl dX5_doLine_22 ?_
  refine v_ialdN (pc := 23) (i := ((20 * (p)) + (l))) (f := (mA S 1)) C 2 rfl (by omega) (by decide) dX5_doLine_23 ?_
  refine v_cv (y := (nI (x))) (ex) ?_
  refine v_istore (pc := 24) C dX5_doLine_24 (by decide) ?_
  refine v_iload (pc := 26) C dX5_doLine_26 rfl ?_
  refine v_tableOut (pc := 28) (tgt := 357) C dX5_doLine_28 (by decide) (by decide) ?_
  refine v_aload_n (pc := 357) C dX5_doLine_357 rfl ?_
  refine v_iload (pc := 358) C dX5_doLine_358 rfl ?_
  refine v_iload (pc := 360) C dX5_doLine_360 rfl ?_
  refine v_iload (pc := 362) C dX5_doLine_362 rfl ?_
  refine v_iload_n (pc := 364) C dX5_doLine_364 rfl ?_
  refine v_callV0 (pc := 365) (st := []) (q0 := 0) C (kX5_rows_8 G o a S x y mk hr hx hy) ykX5_rows cvX5_rows kw3_188 dX5_doLine_365 rfl rfl rfl rfl rfl (by decide) (Nat.le_of_ble_eq_true rfl) (by decide) rfl (Rv_kk (fun u_365 h_365 => ?_))
  refine v_iload_n (pc := 368) C dX5_doLine_368 rfl ?_
  refine v_iconst (pc := 369) (v := 1) C dX5_doLine_369 (by decide) ?_
  refine v_iaddN (pc := 370) C (l) 1 rfl rfl dX5_doLine_370 ?_
  exact v_iret (pc := 371) C dX5_doLine_371 (rfl) (u_365) rfl (⟨rfl, h_365⟩)
set_option maxHeartbeats 4000000 in
set_option maxRecDepth 100000 in
theorem kX5_doLine_9 (G : TG) (o : Nat) (a : Nat → Nat) (S : MS) (p l : Nat) (mk : Int32) (hp : p < 10) (hl : l < 20) (x : Nat) (ho : mA S 0 (20 * p + l) = 9) (ex : mA S 1 (20 * p + l) = nI x) (hx : x < 2) (y : Nat) (hy : y < 2) (hm : mk &&& 1 = 0) (hr : okr (mA S 7)) : CT G yX5_doLine cX5_doLine 8 (some .int) rmX5_doLine 0 0 [.ref (o), .int (nI (p)), .int (nI (l)), .int (mk), .int (nI (y))] (MW G o a S) (fun S : MS => MW G o a S) (Ri (fun r S' => r = nI (l + 1) ∧ S' = sA S 7 (upd (mA S 7) x (mA S 7 y)))) := by
  refine CT.enter (by decide) (Nat.le_of_ble_eq_true rfl) (fun X C hnm => ?_)
  refine V.less [(0, .ref (o)), (1, .int (nI (p))), (2, .int (nI (l))), (3, .int (mk)), (4, .int (nI (y)))] ⟨rfl, rfl, rfl, rfl, rfl, trivial⟩ ?_
  refine v_aload_n (pc := 0) C dX5_doLine_0 rfl ?_
  refine v_get (pc := 1) (v := .ref (a 0)) C inX5 0 rfl rfl 0 (by decide) kw3_25 rfl dX5_doLine_1 ?_
  refine v_bipush (pc := 4) (v := 20) C dX5_doLine_4 (by decide) ?_
  refine v_iload_n (pc := 6) C dX5_doLine_6 rfl ?_
  refine v_imulN (pc := 7) C 20 (p) rfl rfl dX5_doLine_7 ?_
  refine v_iload_n (pc := 8) C dX5_doLine_8 rfl ?_
  refine v_iaddN (pc := 9) C (20 * (p)) (l) rfl rfl dX5_doLine_9 ?_
  refine v_ialdN (pc := 10) (i := ((20 * (p)) + (l))) (f := (mA S 0)) C 1 rfl (by omega) (by decide) dX5_doLine_10 ?_
  refine v_cv (y := (9 : Int32)) (ho) ?_
  refine v_istore (pc := 11) C dX5_doLine_11 (by decide) ?_
  refine v_aload_n (pc := 13) C dX5_doLine_13 rfl ?_
  refine v_get (pc := 14) (v := .ref (a 1)) C inX5 0 rfl rfl 1 (by decide) kw3_26 rfl dX5_doLine_14 ?_
  refine v_bipush (pc := 17) (v := 20) C dX5_doLine_17 (by decide) ?_
  refine v_iload_n (pc := 19) C dX5_doLine_19 rfl ?_
  refine v_imulN (pc := 20) C 20 (p) rfl rfl dX5_doLine_20 ?_
  refine v_iload_n (pc := 21) C dX5_doLine_21 rfl ?_
  refine v_iaddN (pc := 22) C (20 * (p)) (l) rfl rfl dX5_doLine_22 ?_
  refine v_ialdN (pc := 23) (i := ((20 * (p)) + (l))) (f := (mA S 1)) C 2 rfl (by omega) (by decide) dX5_doLine_23 ?_
  refine v_cv (y := (nI (x))) (ex) ?_
  refine v_istore (pc := 24) C dX5_doLine_24 (by decide) ?_
  refine v_iload (pc := 26) C dX5_doLine_26 rfl ?_
  refine v_tableOut (pc := 28) (tgt := 357) C dX5_doLine_28 (by decide) (by decide) ?_
  refine v_aload_n (pc := 357) C dX5_doLine_357 rfl ?_
  refine v_iload (pc := 358) C dX5_doLine_358 rfl ?_
  refine v_iload (pc := 360) C dX5_doLine_360 rfl ?_
  refine v_iload (pc := 362) C dX5_doLine_362 rfl ?_
  refine v_iload_n (pc := 364) C dX5_doLine_364 rfl ?_
  refine v_callV0 (pc := 365) (st := []) (q0 := 0) C (kX5_rows_9 G o a S x y mk hr hx hy hm) ykX5_rows cvX5_rows kw3_188 dX5_doLine_365 rfl rfl rfl rfl rfl (by decide) (Nat.le_of_ble_eq_true rfl) (by decide) rfl (Rv_kk (fun u_365 h_365 => ?_))
  refine v_iload_n (pc := 368) C dX5_doLine_368 rfl ?_
  refine v_iconst (pc := 369) (v := 1) C dX5_doLine_369 (by decide) ?_
  refine v_iaddN (pc := 370) C (l) 1 rfl rfl dX5_doLine_370 ?_
  exact v_iret (pc := 371) C dX5_doLine_371 (rfl) (u_365) rfl (⟨rfl, h_365⟩)
set_option maxHeartbeats 4000000 in
set_option maxRecDepth 100000 in
theorem kX5_doLine_9s (G : TG) (o : Nat) (a : Nat → Nat) (S : MS) (p l : Nat) (mk : Int32) (hp : p < 10) (hl : l < 20) (x : Nat) (ho : mA S 0 (20 * p + l) = 9) (ex : mA S 1 (20 * p + l) = nI x) (hx : x < 2) (y : Nat) (hy : y < 2) (hm : ¬ mk &&& 1 = 0) (hr : okr (mA S 7)) : CT G yX5_doLine cX5_doLine 8 (some .int) rmX5_doLine 0 0 [.ref (o), .int (nI (p)), .int (nI (l)), .int (mk), .int (nI (y))] (MW G o a S) (fun S : MS => MW G o a S) (Ri (fun r S' => r = nI (l + 1) ∧ S' = sA (sA S 6 (cpk (mA S 6) (tn (mA S 7 y)) (if mA S 7 0 = mA S 7 1 then 1 - tn (mA S 7 y) else tn (mA S 7 x)) 4)) 7 (upd (mA S 7) x (nI (if mA S 7 0 = mA S 7 1 then 1 - tn (mA S 7 y) else tn (mA S 7 x)))))) := by
  refine CT.enter (by decide) (Nat.le_of_ble_eq_true rfl) (fun X C hnm => ?_)
  refine V.less [(0, .ref (o)), (1, .int (nI (p))), (2, .int (nI (l))), (3, .int (mk)), (4, .int (nI (y)))] ⟨rfl, rfl, rfl, rfl, rfl, trivial⟩ ?_
  refine v_aload_n (pc := 0) C dX5_doLine_0 rfl ?_
  refine v_get (pc := 1) (v := .ref (a 0)) C inX5 0 rfl rfl 0 (by decide) kw3_25 rfl dX5_doLine_1 ?_
  refine v_bipush (pc := 4) (v := 20) C dX5_doLine_4 (by decide) ?_
  refine v_iload_n (pc := 6) C dX5_doLine_6 rfl ?_
  refine v_imulN (pc := 7) C 20 (p) rfl rfl dX5_doLine_7 ?_
  refine v_iload_n (pc := 8) C dX5_doLine_8 rfl ?_
  refine v_iaddN (pc := 9) C (20 * (p)) (l) rfl rfl dX5_doLine_9 ?_
  refine v_ialdN (pc := 10) (i := ((20 * (p)) + (l))) (f := (mA S 0)) C 1 rfl (by omega) (by decide) dX5_doLine_10 ?_
  refine v_cv (y := (9 : Int32)) (ho) ?_
  refine v_istore (pc := 11) C dX5_doLine_11 (by decide) ?_
  refine v_aload_n (pc := 13) C dX5_doLine_13 rfl ?_
  refine v_get (pc := 14) (v := .ref (a 1)) C inX5 0 rfl rfl 1 (by decide) kw3_26 rfl dX5_doLine_14 ?_
  refine v_bipush (pc := 17) (v := 20) C dX5_doLine_17 (by decide) ?_
  refine v_iload_n (pc := 19) C dX5_doLine_19 rfl ?_
  refine v_imulN (pc := 20) C 20 (p) rfl rfl dX5_doLine_20 ?_
  refine v_iload_n (pc := 21) C dX5_doLine_21 rfl ?_
  refine v_iaddN (pc := 22) C (20 * (p)) (l) rfl rfl dX5_doLine_22 ?_
  refine v_ialdN (pc := 23) (i := ((20 * (p)) + (l))) (f := (mA S 1)) C 2 rfl (by omega) (by decide) dX5_doLine_23 ?_
  refine v_cv (y := (nI (x))) (ex) ?_
  refine v_istore (pc := 24) C dX5_doLine_24 (by decide) ?_
  refine v_iload (pc := 26) C dX5_doLine_26 rfl ?_
  refine v_tableOut (pc := 28) (tgt := 357) C dX5_doLine_28 (by decide) (by decide) ?_
  refine v_aload_n (pc := 357) C dX5_doLine_357 rfl ?_
  refine v_iload (pc := 358) C dX5_doLine_358 rfl ?_
  refine v_iload (pc := 360) C dX5_doLine_360 rfl ?_
  refine v_iload (pc := 362) C dX5_doLine_362 rfl ?_
  refine v_iload_n (pc := 364) C dX5_doLine_364 rfl ?_
  refine v_callV0 (pc := 365) (st := []) (q0 := 0) C (kX5_rows_9s G o a S x y mk hr hx hy hm) ykX5_rows cvX5_rows kw3_188 dX5_doLine_365 rfl rfl rfl rfl rfl (by decide) (Nat.le_of_ble_eq_true rfl) (by decide) rfl (Rv_kk (fun u_365 h_365 => ?_))
  refine v_iload_n (pc := 368) C dX5_doLine_368 rfl ?_
  refine v_iconst (pc := 369) (v := 1) C dX5_doLine_369 (by decide) ?_
  refine v_iaddN (pc := 370) C (l) 1 rfl rfl dX5_doLine_370 ?_
  exact v_iret (pc := 371) C dX5_doLine_371 (rfl) (u_365) rfl (⟨rfl, h_365⟩)
theorem kX5_doLine (G : TG) (o : Nat) (a : Nat → Nat) (S : MS) (p l n : Nat) (Y : Nat → Int32) (mk : Int32) (hp : p < 10) (hl : l < n) (hok : okp (fun k => mA S 0 (20 * p + k)) (fun k => mA S 1 (20 * p + k)) Y n) (hr : okr (mA S 7)) : CT G yX5_doLine cX5_doLine 8 (some .int) rmX5_doLine 0 0 [.ref o, .int (nI p), .int (nI l), .int mk, .int (Y l)] (MW G o a S) (fun S : MS => MW G o a S) (Ri (fun r S' => r = nI (stS (fun k => mA S 0 (20 * p + k)) (fun k => mA S 1 (20 * p + k)) Y mk (l, mA S 5, mA S 6, mA S 7, mL S)).1 ∧ S' = putR S (stS (fun k => mA S 0 (20 * p + k)) (fun k => mA S 1 (20 * p + k)) Y mk (l, mA S 5, mA S 6, mA S 7, mL S)))) := by
  obtain ⟨hn, hw, h0, hlines⟩ := hok
  have hl20 : l < 20 := by omega
  have hwl : wfd (fun k => mA S 0 (20 * p + k)) (l + 1) := fun k hk => hw k (by omega)
  rcases hlines l hl with ⟨ho, x, hx, ex⟩ | ⟨ho, ⟨x, hx, ex⟩, y, hy, ey⟩ | ⟨ho, ⟨x, hx, ex⟩, y, hy, ey⟩ | ⟨ho, ⟨x, hx, ex⟩, y, hy, ey⟩ | ⟨ho, x, hx, ex⟩ | ⟨ho, ⟨x, hx, ex⟩, y, hy, ey⟩ | ho | ⟨ho, ⟨x, hx, ex⟩, y, hy, ey⟩ | ⟨ho, ⟨x, hx, ex⟩, y, hy, ey⟩ | ⟨ho, ⟨x, hx, ex⟩, y, hy, ey⟩
  · have tx : tn (mA S 1 (20 * p + l)) = x := by rw [show mA S 1 (20 * p + l) = nI x from ex]; exact tn_nI (by omega)
    refine (kX5_doLine_0 G o a S p l mk hp hl20 x ho ex hx (Y l)).monoI (fun r S' h => ?_)
    rw [st_0 (s := (l, mA S 5, mA S 6, mA S 7, mL S)) ho]
    exact ⟨h.1, by rw [h.2]; simp only [tx]; exact putR5 ..⟩
  · have tx : tn (mA S 1 (20 * p + l)) = x := by rw [show mA S 1 (20 * p + l) = nI x from ex]; exact tn_nI (by omega)
    have ty : tn (Y l) = y := by rw [ey]; exact tn_nI (by omega)
    rw [ey]
    refine (kX5_doLine_1 G o a S p l mk hp hl20 x ho ex hx y hy).monoI (fun r S' h => ?_)
    rw [st_1 (s := (l, mA S 5, mA S 6, mA S 7, mL S)) ho]
    exact ⟨h.1, by rw [h.2]; simp only [tx, ty]; exact putR5 ..⟩
  · have tx : tn (mA S 1 (20 * p + l)) = x := by rw [show mA S 1 (20 * p + l) = nI x from ex]; exact tn_nI (by omega)
    have ty : tn (Y l) = y := by rw [ey]; exact tn_nI (by omega)
    rw [ey]
    refine (kX5_doLine_2 G o a S p l mk hp hl20 x ho ex hx y hy).monoI (fun r S' h => ?_)
    rw [st_2 (s := (l, mA S 5, mA S 6, mA S 7, mL S)) ho]
    exact ⟨h.1, by rw [h.2]; simp only [tx, ty]; exact putR5 ..⟩
  · have tx : tn (mA S 1 (20 * p + l)) = x := by rw [show mA S 1 (20 * p + l) = nI x from ex]; exact tn_nI (by omega)
    have ty : tn (Y l) = y := by rw [ey]; exact tn_nI (by omega)
    rw [ey]
    refine (kX5_doLine_3 G o a S p l mk hp hl20 x ho ex hx y hy).monoI (fun r S' h => ?_)
    rw [st_3 (s := (l, mA S 5, mA S 6, mA S 7, mL S)) ho]
    exact ⟨h.1, by rw [h.2]; simp only [tx, ty]; exact putR5 ..⟩
  · have tx : tn (mA S 1 (20 * p + l)) = x := by rw [show mA S 1 (20 * p + l) = nI x from ex]; exact tn_nI (by omega)
    obtain ⟨e, hm, he⟩ := mt_of_open hw h0 hl (Or.inl ho)
    refine (kX5_doLine_4 G o a S p l mk hp hl20 x ho ex hx (Y l) e hm (by omega)).monoI (fun r S' h => ?_)
    rw [st_4 (s := (l, mA S 5, mA S 6, mA S 7, mL S)) ho]
    exact ⟨by rw [h.1]; simp only [tx, hm.E], by rw [h.2]; simp only [tx]; exact putRL ..⟩
  · have tx : tn (mA S 1 (20 * p + l)) = x := by rw [show mA S 1 (20 * p + l) = nI x from ex]; exact tn_nI (by omega)
    have ty : tn (Y l) = y := by rw [ey]; exact tn_nI (by omega)
    obtain ⟨e, hm, he⟩ := mt_of_open hw h0 hl (Or.inr ho)
    rw [ey]
    refine (kX5_doLine_5 G o a S p l mk hp hl20 x ho ex hx y hy e hm (by omega)).monoI (fun r S' h => ?_)
    rw [st_5 (s := (l, mA S 5, mA S 6, mA S 7, mL S)) ho]
    exact ⟨by rw [h.1]; simp only [tx, ty, hm.E], by rw [h.2]; exact putR0 ..⟩
  · obtain ⟨i, hm⟩ := mt_of_end (f := (fun k => mA S 0 (20 * p + k))) ho (hw l hl ho)
    refine (kX5_doLine_6 G o a S p l mk hp hl20 _ ho rfl (Y l) i hm hwl).monoI (fun r S' h => ?_)
    rw [st_6 (s := (l, mA S 5, mA S 6, mA S 7, mL S)) ho]
    simp only [hm.I]
    by_cases h5 : mA S 0 (20 * p + i) = 5
    · rw [if_pos h5]
      exact ⟨(h.1 h5).1, by rw [(h.1 h5).2]; exact putR0 ..⟩
    · rw [if_neg h5]
      exact ⟨(h.2 h5).1, by rw [(h.2 h5).2]; exact putRL ..⟩
  · have tx : tn (mA S 1 (20 * p + l)) = x := by rw [show mA S 1 (20 * p + l) = nI x from ex]; exact tn_nI (by omega)
    have ty : tn (Y l) = y := by rw [ey]; exact tn_nI (by omega)
    rw [ey]
    refine (kX5_doLine_7 G o a S p l mk hp hl20 x ho ex hx y hy hr).monoI (fun r S' h => ?_)
    rw [st_7 (s := (l, mA S 5, mA S 6, mA S 7, mL S)) ho]
    exact ⟨h.1, by rw [h.2]; simp only [tx, ty]; exact putR6 ..⟩
  · have tx : tn (mA S 1 (20 * p + l)) = x := by rw [show mA S 1 (20 * p + l) = nI x from ex]; exact tn_nI (by omega)
    have ty : tn (Y l) = y := by rw [ey]; exact tn_nI (by omega)
    rw [ey]
    refine (kX5_doLine_8 G o a S p l mk hp hl20 x ho ex hx y hy hr).monoI (fun r S' h => ?_)
    rw [st_8 (s := (l, mA S 5, mA S 6, mA S 7, mL S)) ho]
    exact ⟨h.1, by rw [h.2]; simp only [tx, ty]; exact putR5 ..⟩
  · have tx : tn (mA S 1 (20 * p + l)) = x := by rw [show mA S 1 (20 * p + l) = nI x from ex]; exact tn_nI (by omega)
    have ty : tn (Y l) = y := by rw [ey]; exact tn_nI (by omega)
    rw [ey]
    by_cases hm : mk &&& 1 = 0
    · refine (kX5_doLine_9 G o a S p l mk hp hl20 x ho ex hx y hy hm hr).monoI (fun r S' h => ?_)
      rw [st_9 (s := (l, mA S 5, mA S 6, mA S 7, mL S)) ho, if_pos hm]
      exact ⟨h.1, by rw [h.2]; simp only [tx, ty]; exact putR7 ..⟩
    · refine (kX5_doLine_9s G o a S p l mk hp hl20 x ho ex hx y hy hm hr).monoI (fun r S' h => ?_)
      rw [st_9 (s := (l, mA S 5, mA S 6, mA S 7, mL S)) ho, if_neg hm]
      exact ⟨h.1, by rw [h.2]; simp only [tx, ty]; exact putR67 ..⟩
end
section
/-! the reference: a whole run -/
theorem rnS_step {O X Y : Nat → Int32} {n : Nat} {mk : Int32} {f : Nat} {t : Nat → Int32} {s : RS} (h : s.1 < n) : rnS O X Y n mk (f + 1) t s = ((rnS O X Y n mk f (upd t s.1 (t s.1 + 1)) (stS O X Y mk s)).1 + 1, (rnS O X Y n mk f (upd t s.1 (t s.1 + 1)) (stS O X Y mk s)).2) := by
  conv => lhs; unfold rnS
  rw [if_pos h]
theorem rnS_stop {O X Y : Nat → Int32} {n : Nat} {mk : Int32} {f : Nat} {t : Nat → Int32} {s : RS} (h : ¬ s.1 < n) : rnS O X Y n mk f t s = (0, t, s) := by
  cases f with
  | zero => rfl
  | succ f => conv => lhs; unfold rnS
              rw [if_neg h]
theorem rnS_0 {O X Y : Nat → Int32} {n : Nat} {mk : Int32} {t : Nat → Int32} {s : RS} : rnS O X Y n mk 0 t s = (0, t, s) := rfl
/-- a run from its start -/
noncomputable def rnR (O X Y : Nat → Int32) (n : Nat) (mk inp : Int32) (lf : Nat → Int64) : Nat × (Nat → Int32) × RS := rnS O X Y n mk 300 c0 (0, v0 inp, c0, r0, lf)
/-- its end over the reference's state -/
def rnPut (S : MS) (n : Nat) (R : Nat × (Nat → Int32) × RS) : MS := sL (sA (sA (sA (sA (sI (sI S 10 (nI R.1)) 11 (if R.2.2.1 < n then 1 else 0)) 5 R.2.2.2.1) 6 R.2.2.2.2.1) 7 R.2.2.2.2.2.1) 9 R.2.1) R.2.2.2.2.2.2
theorem upd_in {f g : Nat → Int32} {k : Nat} {v : Int32} (h : ∀ j, j < k → f j = g j) (hv : v = g k) : ∀ j, j < k + 1 → upd f k v j = g j := by
  intro j hj
  by_cases e : j = k
  · subst e; rw [pk_us, hv]
  · rw [pk_un e]; exact h j (by omega)
theorem okr_st {O X Y : Nat → Int32} {mk : Int32} {s : RS} (h : okr s.2.2.2.1) (hl : okl (O s.1) (X s.1) (Y s.1)) : okr (stS O X Y mk s).2.2.2.1 := by
  rcases hl with ⟨ho, x, hx, ex⟩ | ⟨ho, ⟨x, hx, ex⟩, y, hy, ey⟩ | ⟨ho, ⟨x, hx, ex⟩, y, hy, ey⟩ | ⟨ho, ⟨x, hx, ex⟩, y, hy, ey⟩ | ⟨ho, x, hx, ex⟩ | ⟨ho, ⟨x, hx, ex⟩, y, hy, ey⟩ | ho | ⟨ho, ⟨x, hx, ex⟩, y, hy, ey⟩ | ⟨ho, ⟨x, hx, ex⟩, y, hy, ey⟩ | ⟨ho, ⟨x, hx, ex⟩, y, hy, ey⟩
  · rw [st_0 ho]; exact h
  · rw [st_1 ho]; exact h
  · rw [st_2 ho]; exact h
  · rw [st_3 ho]; exact h
  · rw [st_4 ho]; exact h
  · rw [st_5 ho]; exact h
  · rw [st_6 ho]; split <;> exact h
  · rw [st_7 ho]; exact h
  · rw [st_8 ho]; exact h
  · rw [st_9 ho]
    have ty : tn (Y s.1) = y := by rw [ey]; exact tn_nI (by omega)
    have tx : tn (X s.1) = x := by rw [ex]; exact tn_nI (by omega)
    have key : ∀ v : Int32, (v = nI 0 ∨ v = nI 1) → okr (upd s.2.2.2.1 (tn (X s.1)) v) := by
      intro v hv k hk
      by_cases e : k = tn (X s.1)
      · subst e; rw [pk_us]; exact hv
      · rw [pk_un e]; exact h k hk
    split
    · exact key _ (by rw [ty]; exact h y hy)
    · refine key _ ?_
      split
      · obtain ⟨j, hj, -, tj⟩ := okr_at h (show tn (Y s.1) < 2 by omega)
        rw [tj]
        rcases (show j = 0 ∨ j = 1 by omega) with rfl | rfl
        · exact Or.inr rfl
        · exact Or.inl rfl
      · obtain ⟨j, hj, -, tj⟩ := okr_at h (show tn (X s.1) < 2 by omega)
        rw [tj]
        rcases (show j = 0 ∨ j = 1 by omega) with rfl | rfl
        · exact Or.inl rfl
        · exact Or.inr rfl
theorem st_le {O X Y : Nat → Int32} {mk : Int32} {s : RS} {n : Nat} (hok : okp O X Y n) (h : s.1 < n) : (stS O X Y mk s).1 ≤ n := by
  obtain ⟨hn, hw, h0, hl⟩ := hok
  rcases hl s.1 h with ⟨ho, -⟩ | ⟨ho, -⟩ | ⟨ho, -⟩ | ⟨ho, -⟩ | ⟨ho, -⟩ | ⟨ho, -⟩ | ho | ⟨ho, -⟩ | ⟨ho, -⟩ | ⟨ho, -⟩
  · rw [st_0 ho]; exact h
  · rw [st_1 ho]; exact h
  · rw [st_2 ho]; exact h
  · rw [st_3 ho]; exact h
  · obtain ⟨e, hm, he⟩ := mt_of_open hw h0 h (Or.inl ho)
    rw [st_4 ho]
    show (if _ then s.1 + 1 else mtf O s.1 + 1) ≤ n
    rw [hm.E]; split
    · exact h
    · exact he
  · obtain ⟨e, hm, he⟩ := mt_of_open hw h0 h (Or.inr ho)
    rw [st_5 ho]
    show (if _ then s.1 + 1 else mtf O s.1 + 1) ≤ n
    rw [hm.E]; split
    · exact h
    · exact he
  · obtain ⟨i, hm⟩ := mt_of_end ho (hw s.1 h ho)
    have := hm.1
    rw [st_6 ho, hm.I]
    split
    · exact h
    · show (if _ then i + 1 else s.1 + 1) ≤ n
      split
      · exact Nat.le_trans hm.1 (Nat.le_of_lt h)
      · exact h
  · rw [st_7 ho]; exact h
  · rw [st_8 ho]; exact h
  · rw [st_9 ho]; split <;> exact h
theorem okr_r0 : okr r0 := by
  intro k hk
  rcases (show k = 0 ∨ k = 1 by omega) with rfl | rfl
  · exact Or.inl rfl
  · exact Or.inr rfl
def rmX5_runLines : Room := { frames := 3, cells := 0, slots := 0, locals := 75 }
set_option maxHeartbeats 4000000 in
set_option maxRecDepth 100000 in
theorem kX5_runLines (G : TG) (o : Nat) (a : Nat → Nat) (S : MS) (p n : Nat) (inp mk ln ins : Int32) (Y : Nat → Int32) (hp : p < 10) (hn : mA S 3 p = nI n) (hY : ∀ k, Y k = if nI k = ln then ins else mA S 2 (20 * p + k)) (hok : okp (fun k => mA S 0 (20 * p + k)) (fun k => mA S 1 (20 * p + k)) Y n) : CT G yX5_runLines cX5_runLines 7 none rmX5_runLines 0 0 [.ref (o), .int (nI (p)), .int (inp), .int (mk), .int (ln), .int (ins)] (MW G o a S) (fun S : MS => MW G o a S) (Rv (fun S' => S' = rnPut S n (rnR (fun k => mA S 0 (20 * p + k)) (fun k => mA S 1 (20 * p + k)) Y n mk inp (mL S)))) := by
  refine CT.enter (by decide) (Nat.le_of_ble_eq_true rfl) (fun X C hnm => ?_)
  refine V.less [(0, .ref (o)), (1, .int (nI (p))), (2, .int (inp)), (3, .int (mk)), (4, .int (ln)), (5, .int (ins))] ⟨rfl, rfl, rfl, rfl, rfl, rfl, trivial⟩ ?_
  have hn20 := hok.1
  refine v_iconst (pc := 0) (v := 0) C dX5_runLines_0 (by decide) ?_
  refine v_istore (pc := 1) C dX5_runLines_1 (by decide) ?_
  have L3 : ∀ (fu : Nat) (k : Nat) (fv : Nat → Int32), (4 < k + fu) → (k ≤ 4) → (∀ j, j < k → fv j = (v0 inp) j) → V G X cX5_runLines 7 rmX5_runLines (QX G X (fun S : MS => MW G o a S) (Rv (fun S' => S' = rnPut S n (rnR (fun k => mA S 0 (20 * p + k)) (fun k => mA S 1 (20 * p + k)) Y n mk inp (mL S)))) 0 0) 0 0 3 (lvo [(0, .ref (o)), (1, .int (nI (p))), (2, .int (inp)), (3, .int (mk)), (4, .int (ln)), (5, .int (ins)), (6, .int (nI (k)))]) [] (MW G o a (sA S 5 fv)) := by
    intro fu
    induction fu with
    | zero => intro k fv hf hk hfv; exfalso; omega
    | succ fu ih =>
      intro k fv hf hk hfv
      refine v_iload (pc := 3) C dX5_runLines_3 rfl ?_
      refine v_iconst (pc := 5) (v := 4) C dX5_runLines_5 (by decide) ?_
      refine v_icmp_geN (pc := 6) (tgt := 32) C (k) 4 rfl rfl (by omega) (by omega) dX5_runLines_6 (by decide) (fun c_6 => ?_) (fun c_6 => ?_)
      · refine V.funI (q0 := 5) (f := fv) (g := (v0 inp)) rfl (fun j hj => hfv j (by omega)) (ws' := (MW G o a (sA S 5 (v0 inp)))) rfl ?_
        refine v_iconst (pc := 32) (v := 0) C dX5_runLines_32 (by decide) ?_
        refine v_istore (pc := 33) C dX5_runLines_33 (by decide) ?_
        have L35 : ∀ (fu : Nat) (k : Nat) (fc : Nat → Int32), (8 < k + fu) → (k ≤ 8) → (∀ j, j < k → fc j = c0 j) → V G X cX5_runLines 7 rmX5_runLines (QX G X (fun S : MS => MW G o a S) (Rv (fun S' => S' = rnPut S n (rnR (fun k => mA S 0 (20 * p + k)) (fun k => mA S 1 (20 * p + k)) Y n mk inp (mL S)))) 0 0) 0 0 35 (lvo [(0, .ref (o)), (1, .int (nI (p))), (2, .int (inp)), (3, .int (mk)), (4, .int (ln)), (5, .int (ins)), (6, .int (nI (k)))]) [] (MW G o a (sA (sA S 5 (v0 inp)) 6 fc)) := by
          intro fu
          induction fu with
          | zero => intro k fc hf hk hfc; exfalso; omega
          | succ fu ih =>
            intro k fc hf hk hfc
            refine v_iload (pc := 35) C dX5_runLines_35 rfl ?_
            refine v_bipush (pc := 37) (v := 8) C dX5_runLines_37 (by decide) ?_
            refine v_icmp_geN (pc := 39) (tgt := 56) C (k) 8 rfl rfl (by omega) (by omega) dX5_runLines_39 (by decide) (fun c_39 => ?_) (fun c_39 => ?_)
            · refine V.funI (q0 := 6) (f := fc) (g := c0) rfl (fun j hj => hfc j (by omega)) (ws' := (MW G o a (sA (sA S 5 (v0 inp)) 6 c0))) rfl ?_
              refine v_aload_n (pc := 56) C dX5_runLines_56 rfl ?_
              refine v_get (pc := 57) (v := .ref (a 7)) C inX5 0 rfl rfl 7 (by decide) kw3_32 rfl dX5_runLines_57 ?_
              refine v_iconst (pc := 60) (v := 0) C dX5_runLines_60 (by decide) ?_
              refine v_iconst (pc := 61) (v := 0) C dX5_runLines_61 (by decide) ?_
              refine v_iastN (pc := 62) (i := 0) (f := (mA S 7)) C 7 rfl (by omega) (by decide) dX5_runLines_62 (ws' := (MW G o a (sA (sA (sA S 5 (v0 inp)) 6 c0) 7 (upd ((mA S 7)) 0 (0 : Int32))))) rfl ?_
              refine v_aload_n (pc := 63) C dX5_runLines_63 rfl ?_
              refine v_get (pc := 64) (v := .ref (a 7)) C inX5 0 rfl rfl 7 (by decide) kw3_32 rfl dX5_runLines_64 ?_
              refine v_iconst (pc := 67) (v := 1) C dX5_runLines_67 (by decide) ?_
              refine v_iconst (pc := 68) (v := 1) C dX5_runLines_68 (by decide) ?_
              refine v_iastN (pc := 69) (i := 1) (f := (upd ((mA S 7)) 0 (0 : Int32))) C 7 rfl (by omega) (by decide) dX5_runLines_69 (ws' := (MW G o a (sA (sA (sA S 5 (v0 inp)) 6 c0) 7 (upd ((upd ((mA S 7)) 0 (0 : Int32))) 1 (1 : Int32))))) rfl ?_
              refine V.funI (q0 := 7) (f := (upd ((upd ((mA S 7)) 0 (0 : Int32))) 1 (1 : Int32))) (g := r0) rfl (fun j hj => by rcases (show j = 0 ∨ j = 1 by omega) with rfl | rfl <;> rfl) (ws' := (MW G o a (sA (sA (sA S 5 (v0 inp)) 6 c0) 7 r0))) rfl ?_
              refine v_aload_n (pc := 70) C dX5_runLines_70 rfl ?_
              refine v_iconst (pc := 71) (v := 0) C dX5_runLines_71 (by decide) ?_
              refine v_put (pc := 72) C inX5 tyX5 tyX5_ok nmX5 0 rfl rfl 10 (by decide) kw3_35 rfl (rfl) rfl (Nat.le_of_ble_eq_true rfl) dX5_runLines_72 (ws' := (MW G o a (sA (sA (sA (sI S 10 (0 : Int32)) 5 (v0 inp)) 6 c0) 7 r0))) rfl ?_
              refine v_aload_n (pc := 75) C dX5_runLines_75 rfl ?_
              refine v_iconst (pc := 76) (v := 0) C dX5_runLines_76 (by decide) ?_
              refine v_put (pc := 77) C inX5 tyX5 tyX5_ok nmX5 0 rfl rfl 11 (by decide) kw3_36 rfl (rfl) rfl (Nat.le_of_ble_eq_true rfl) dX5_runLines_77 (ws' := (MW G o a (sA (sA (sA (sI (sI S 10 (0 : Int32)) 11 (0 : Int32)) 5 (v0 inp)) 6 c0) 7 r0))) rfl ?_
              refine v_iconst (pc := 80) (v := 0) C dX5_runLines_80 (by decide) ?_
              refine v_istore (pc := 81) C dX5_runLines_81 (by decide) ?_
              have L83 : ∀ (fu : Nat) (k : Nat) (ft : Nat → Int32), (20 < k + fu) → (k ≤ 20) → (∀ j, j < k → ft j = c0 j) → V G X cX5_runLines 7 rmX5_runLines (QX G X (fun S : MS => MW G o a S) (Rv (fun S' => S' = rnPut S n (rnR (fun k => mA S 0 (20 * p + k)) (fun k => mA S 1 (20 * p + k)) Y n mk inp (mL S)))) 0 0) 0 0 83 (lvo [(0, .ref (o)), (1, .int (nI (p))), (2, .int (inp)), (3, .int (mk)), (4, .int (ln)), (5, .int (ins)), (6, .int (nI (k)))]) [] (MW G o a (sA (sA (sA (sA (sI (sI S 10 (0 : Int32)) 11 (0 : Int32)) 5 (v0 inp)) 6 c0) 7 r0) 9 ft)) := by
                intro fu
                induction fu with
                | zero => intro k ft hf hk hft; exfalso; omega
                | succ fu ih =>
                  intro k ft hf hk hft
                  refine v_iload (pc := 83) C dX5_runLines_83 rfl ?_
                  refine v_bipush (pc := 85) (v := 20) C dX5_runLines_85 (by decide) ?_
                  refine v_icmp_geN (pc := 87) (tgt := 104) C (k) 20 rfl rfl (by omega) (by omega) dX5_runLines_87 (by decide) (fun c_87 => ?_) (fun c_87 => ?_)
                  · refine V.funI (q0 := 9) (f := ft) (g := c0) rfl (fun j hj => hft j (by omega)) (ws' := (MW G o a (sA (sA (sA (sA (sI (sI S 10 (0 : Int32)) 11 (0 : Int32)) 5 (v0 inp)) 6 c0) 7 r0) 9 c0))) rfl ?_
                    refine v_iconst (pc := 104) (v := 0) C dX5_runLines_104 (by decide) ?_
                    refine v_istore (pc := 105) C dX5_runLines_105 (by decide) ?_
                    have L107 : ∀ (fu : Nat) (i : Nat) (b : Nat) (t : Nat → Int32) (s : RS), (301 < i + b + fu) → (i ≤ 300) → (b ≤ 1) → ((i + (rnS (fun k => mA S 0 (20 * p + k)) (fun k => mA S 1 (20 * p + k)) Y n mk (300 - i) t s).1, (rnS (fun k => mA S 0 (20 * p + k)) (fun k => mA S 1 (20 * p + k)) Y n mk (300 - i) t s).2) = rnR (fun k => mA S 0 (20 * p + k)) (fun k => mA S 1 (20 * p + k)) Y n mk inp (mL S)) → (okr s.2.2.2.1) → (b = 1 → i = 300 ∧ s.1 < n) → (s.1 ≤ n) → V G X cX5_runLines 7 rmX5_runLines (QX G X (fun S : MS => MW G o a S) (Rv (fun S' => S' = rnPut S n (rnR (fun k => mA S 0 (20 * p + k)) (fun k => mA S 1 (20 * p + k)) Y n mk inp (mL S)))) 0 0) 0 0 107 (lvo [(0, .ref (o)), (1, .int (nI (p))), (2, .int (inp)), (3, .int (mk)), (4, .int (ln)), (5, .int (ins)), (6, .int (nI (s.1)))]) [] (MW G o a (sL (sA (sA (sA (sA (sI (sI S 10 (nI i)) 11 (nI b)) 5 s.2.1) 6 s.2.2.1) 7 s.2.2.2.1) 9 t) s.2.2.2.2)) := by
                      intro fu
                      induction fu with
                      | zero => intro i b t s hf hi hb hR hr2 hsp hsn; exfalso; omega
                      | succ fu ih =>
                        intro i b t s hf hi hb hR hr2 hsp hsn
                        refine v_iload (pc := 107) C dX5_runLines_107 rfl ?_
                        refine v_aload_n (pc := 109) C dX5_runLines_109 rfl ?_
                        refine v_get (pc := 110) (v := .ref (a 3)) C inX5 0 rfl rfl 3 (by decide) kw3_28 rfl dX5_runLines_110 ?_
                        refine v_iload_n (pc := 113) C dX5_runLines_113 rfl ?_
                        refine v_ialdN (pc := 114) (i := (p)) (f := (mA S 3)) C 4 rfl (by omega) (by decide) dX5_runLines_114 ?_
                        refine v_cv (y := (nI (n))) (hn) ?_
                        refine v_icmp_geN (pc := 115) (tgt := 201) C (s.1) (n) rfl rfl (by omega) (by omega) dX5_runLines_115 (by decide) (fun c_115 => ?_) (fun c_115 => ?_)
                        · exact v_vret (pc := 201) C dX5_runLines_201 ((sL (sA (sA (sA (sA (sI (sI S 10 (nI i)) 11 (nI b)) 5 s.2.1) 6 s.2.2.1) 7 s.2.2.2.1) 9 t) s.2.2.2.2)) rfl (by rw [← hR, rnS_stop (by omega)]; unfold rnPut; rw [if_neg (by show ¬ s.1 < n; omega), show b = 0 by rcases (show b = 0 ∨ b = 1 by omega) with q | q; exact q; have := hsp q; omega]; rfl)
                        · refine v_aload_n (pc := 118) C dX5_runLines_118 rfl ?_
                          refine v_get (pc := 119) (v := .int (nI (b))) C inX5 0 rfl rfl 11 (by decide) kw3_36 rfl dX5_runLines_119 ?_
                          refine v_if_neN (pc := 122) (tgt := 201) C (b) rfl (by omega) dX5_runLines_122 (by decide) (fun c_122 => ?_) (fun c_122 => ?_)
                          · exact v_vret (pc := 201) C dX5_runLines_201 ((sL (sA (sA (sA (sA (sI (sI S 10 (nI i)) 11 (nI b)) 5 s.2.1) 6 s.2.2.1) 7 s.2.2.2.1) 9 t) s.2.2.2.2)) rfl (by rw [← hR, show 300 - i = 0 by have := hsp (by omega); omega, rnS_0]; unfold rnPut; rw [if_pos (by show s.1 < n; omega), show b = 1 by omega]; rfl)
                          · refine v_aload_n (pc := 125) C dX5_runLines_125 rfl ?_
                            refine v_get (pc := 126) (v := .int (nI (i))) C inX5 0 rfl rfl 10 (by decide) kw3_35 rfl dX5_runLines_126 ?_
                            refine v_sipush (pc := 129) (v := 300) C dX5_runLines_129 (by decide) ?_
                            refine v_icmp_neN (pc := 132) (tgt := 143) C (i) 300 rfl rfl (by omega) (by omega) dX5_runLines_132 (by decide) (fun c_132 => ?_) (fun c_132 => ?_)
                            · refine v_aload_n (pc := 143) C dX5_runLines_143 rfl ?_
                              refine v_dup (pc := 144) C dX5_runLines_144 rfl ?_
                              refine v_get (pc := 145) (v := .int (nI (i))) C inX5 0 rfl rfl 10 (by decide) kw3_35 rfl dX5_runLines_145 ?_
                              refine v_iconst (pc := 148) (v := 1) C dX5_runLines_148 (by decide) ?_
                              refine v_iaddN (pc := 149) C (i) 1 rfl rfl dX5_runLines_149 ?_
                              refine v_put (pc := 150) C inX5 tyX5 tyX5_ok nmX5 0 rfl rfl 10 (by decide) kw3_35 rfl (rfl) rfl (Nat.le_of_ble_eq_true rfl) dX5_runLines_150 (ws' := (MW G o a (sL (sA (sA (sA (sA (sI (sI S 10 (nI ((i) + 1))) 11 (nI b)) 5 s.2.1) 6 s.2.2.1) 7 s.2.2.2.1) 9 t) s.2.2.2.2))) rfl ?_
                              refine v_aload_n (pc := 153) C dX5_runLines_153 rfl ?_
                              refine v_get (pc := 154) (v := .ref (a 9)) C inX5 0 rfl rfl 9 (by decide) kw3_34 rfl dX5_runLines_154 ?_
                              refine v_iload (pc := 157) C dX5_runLines_157 rfl ?_
                              refine v_dup2_11 (pc := 159) C dX5_runLines_159 rfl rfl ?_
                              refine v_ialdN (pc := 160) (i := (s.1)) (f := t) C 9 rfl (by omega) (by decide) dX5_runLines_160 ?_
                              refine v_iconst (pc := 161) (v := 1) C dX5_runLines_161 (by decide) ?_
                              refine v_iadd (pc := 162) C dX5_runLines_162 ?_
                              refine v_iastN (pc := 163) (i := (s.1)) (f := t) C 9 rfl (by omega) (by decide) dX5_runLines_163 (ws' := (MW G o a (sL (sA (sA (sA (sA (sI (sI S 10 (nI ((i) + 1))) 11 (nI b)) 5 s.2.1) 6 s.2.2.1) 7 s.2.2.2.1) 9 (upd (t) (s.1) ((t (s.1)) + (1 : Int32)))) s.2.2.2.2))) rfl ?_
                              refine v_aload_n (pc := 164) C dX5_runLines_164 rfl ?_
                              refine v_iload_n (pc := 165) C dX5_runLines_165 rfl ?_
                              refine v_iload (pc := 166) C dX5_runLines_166 rfl ?_
                              refine v_iload_n (pc := 168) C dX5_runLines_168 rfl ?_
                              have J193 : V G X cX5_runLines 7 rmX5_runLines (QX G X (fun S : MS => MW G o a S) (Rv (fun S' => S' = rnPut S n (rnR (fun k => mA S 0 (20 * p + k)) (fun k => mA S 1 (20 * p + k)) Y n mk inp (mL S)))) 0 0) 0 0 193 (lvo [(0, .ref (o)), (1, .int (nI (p))), (2, .int (inp)), (3, .int (mk)), (4, .int (ln)), (5, .int (ins)), (6, .int (nI (s.1)))]) [.int (Y s.1), .int (mk), .int (nI (s.1)), .int (nI (p)), .ref (o)] (MW G o a (sL (sA (sA (sA (sA (sI (sI S 10 (nI ((i) + 1))) 11 (nI b)) 5 s.2.1) 6 s.2.2.1) 7 s.2.2.2.1) 9 (upd (t) (s.1) ((t (s.1)) + (1 : Int32)))) s.2.2.2.2)) := by
                                skip
                                refine v_callV0 (pc := 193) (st := []) (q0 := 0) C (kX5_doLine G o a (sL (sA (sA (sA (sA (sI (sI S 10 (nI ((i) + 1))) 11 (nI b)) 5 s.2.1) 6 s.2.2.1) 7 s.2.2.2.1) 9 (upd (t) (s.1) ((t (s.1)) + (1 : Int32)))) s.2.2.2.2) p s.1 n Y mk hp (by omega) hok hr2) ykX5_doLine cvX5_doLine kw3_169 dX5_runLines_193 rfl rfl rfl rfl rfl (by decide) (Nat.le_of_ble_eq_true rfl) (by decide) rfl (Ri_kk (fun r_193 u_193 h_193 => ?_))
                                obtain ⟨e1, e2⟩ := h_193
                                subst e1
                                refine V.same (ws' := MW G o a (sL (sA (sA (sA (sA (sI (sI S 10 (nI ((i) + 1))) 11 (nI b)) 5 ((stS (fun k => mA S 0 (20 * p + k)) (fun k => mA S 1 (20 * p + k)) Y mk s)).2.1) 6 ((stS (fun k => mA S 0 (20 * p + k)) (fun k => mA S 1 (20 * p + k)) Y mk s)).2.2.1) 7 ((stS (fun k => mA S 0 (20 * p + k)) (fun k => mA S 1 (20 * p + k)) Y mk s)).2.2.2.1) 9 (upd (t) (s.1) ((t (s.1)) + (1 : Int32)))) ((stS (fun k => mA S 0 (20 * p + k)) (fun k => mA S 1 (20 * p + k)) Y mk s)).2.2.2.2)) (by rw [e2]; rfl) ?_
                                refine v_istore (pc := 196) C dX5_runLines_196 (by decide) ?_
                                refine v_goto (pc := 198) (tgt := 107) C dX5_runLines_198 (by decide) ?_
                                exact V.lessE (ih  (((i) + 1)) (b) ((upd (t) (s.1) ((t (s.1)) + (1 : Int32)))) ((stS (fun k => mA S 0 (20 * p + k)) (fun k => mA S 1 (20 * p + k)) Y mk s)) (by omega) (by omega) (by omega) (by rw [← hR, show 300 - i = (300 - (i + 1)) + 1 by omega, rnS_step (by omega), show i + 1 + (rnS (fun k => mA S 0 (20 * p + k)) (fun k => mA S 1 (20 * p + k)) Y n mk (300 - (i + 1)) (upd t s.1 (t s.1 + 1)) (stS (fun k => mA S 0 (20 * p + k)) (fun k => mA S 1 (20 * p + k)) Y mk s)).1 = i + ((rnS (fun k => mA S 0 (20 * p + k)) (fun k => mA S 1 (20 * p + k)) Y n mk (300 - (i + 1)) (upd t s.1 (t s.1 + 1)) (stS (fun k => mA S 0 (20 * p + k)) (fun k => mA S 1 (20 * p + k)) Y mk s)).1 + 1) by omega]) (okr_st hr2 (hok.2.2.2 s.1 (by omega))) (fun q => absurd q (by omega)) (st_le hok (by omega))) ⟨rfl, rfl, rfl, rfl, rfl, rfl, rfl, trivial⟩
                              refine v_iload (pc := 169) C dX5_runLines_169 rfl ?_
                              refine v_iload (pc := 171) C dX5_runLines_171 rfl ?_
                              refine v_icmp_ne (pc := 173) (tgt := 181) C dX5_runLines_173 (by decide) (fun c_173 => ?_) (fun c_173 => ?_)
                              · refine v_aload_n (pc := 181) C dX5_runLines_181 rfl ?_
                                refine v_get (pc := 182) (v := .ref (a 2)) C inX5 0 rfl rfl 2 (by decide) kw3_27 rfl dX5_runLines_182 ?_
                                refine v_bipush (pc := 185) (v := 20) C dX5_runLines_185 (by decide) ?_
                                refine v_iload_n (pc := 187) C dX5_runLines_187 rfl ?_
                                refine v_imulN (pc := 188) C 20 (p) rfl rfl dX5_runLines_188 ?_
                                refine v_iload (pc := 189) C dX5_runLines_189 rfl ?_
                                refine v_iaddN (pc := 191) C (20 * (p)) (s.1) rfl rfl dX5_runLines_191 ?_
                                refine v_ialdN (pc := 192) (i := ((20 * (p)) + (s.1))) (f := (mA S 2)) C 3 rfl (by omega) (by decide) dX5_runLines_192 ?_
                                refine v_cv (y := (Y s.1)) (by rw [hY, if_neg c_173]) ?_
                                exact V.lessE (J193   ) ⟨rfl, rfl, rfl, rfl, rfl, rfl, rfl, trivial⟩
                              · refine v_iload (pc := 176) C dX5_runLines_176 rfl ?_
                                refine v_cv (y := (Y s.1)) (by rw [hY, if_pos c_173]) ?_
                                refine v_goto (pc := 178) (tgt := 193) C dX5_runLines_178 (by decide) ?_
                                exact V.lessE (J193   ) ⟨rfl, rfl, rfl, rfl, rfl, rfl, rfl, trivial⟩
                            · refine v_aload_n (pc := 135) C dX5_runLines_135 rfl ?_
                              refine v_iconst (pc := 136) (v := 1) C dX5_runLines_136 (by decide) ?_
                              refine v_put (pc := 137) C inX5 tyX5 tyX5_ok nmX5 0 rfl rfl 11 (by decide) kw3_36 rfl (rfl) rfl (Nat.le_of_ble_eq_true rfl) dX5_runLines_137 (ws' := (MW G o a (sL (sA (sA (sA (sA (sI (sI S 10 (nI i)) 11 (1 : Int32)) 5 s.2.1) 6 s.2.2.1) 7 s.2.2.2.1) 9 t) s.2.2.2.2))) rfl ?_
                              refine v_goto (pc := 140) (tgt := 107) C dX5_runLines_140 (by decide) ?_
                              exact V.lessE (ih  (i) (1) (t) (s) (by omega) (by omega) (by omega) (hR) (hr2) (fun _ => ⟨by omega, by omega⟩) (hsn)) ⟨rfl, rfl, rfl, rfl, rfl, rfl, rfl, trivial⟩
                    exact V.lessE (L107 (302) (0) (0) (c0) (((0, v0 inp, c0, r0, mL S) : RS)) (by omega) (by omega) (by omega) (by unfold rnR; rw [Nat.zero_add]) (okr_r0) (fun q => absurd q (by decide)) (Nat.zero_le n)) ⟨rfl, rfl, rfl, rfl, rfl, rfl, rfl, trivial⟩
                  · refine v_aload_n (pc := 90) C dX5_runLines_90 rfl ?_
                    refine v_get (pc := 91) (v := .ref (a 9)) C inX5 0 rfl rfl 9 (by decide) kw3_34 rfl dX5_runLines_91 ?_
                    refine v_iload (pc := 94) C dX5_runLines_94 rfl ?_
                    refine v_iconst (pc := 96) (v := 0) C dX5_runLines_96 (by decide) ?_
                    refine v_iastN (pc := 97) (i := (k)) (f := ft) C 9 rfl (by omega) (by decide) dX5_runLines_97 (ws' := (MW G o a (sA (sA (sA (sA (sI (sI S 10 (0 : Int32)) 11 (0 : Int32)) 5 (v0 inp)) 6 c0) 7 r0) 9 (upd (ft) (k) (0 : Int32))))) rfl ?_
                    refine v_iinc1 (pc := 98) C (k) rfl dX5_runLines_98 rfl ?_
                    refine v_goto (pc := 101) (tgt := 83) C dX5_runLines_101 (by decide) ?_
                    exact V.lessE (ih  (((k) + 1)) ((upd (ft) (k) (0 : Int32))) (by omega) (by omega) (upd_in hft rfl)) ⟨rfl, rfl, rfl, rfl, rfl, rfl, rfl, trivial⟩
              exact V.lessE (L83 (21) (0) ((mA S 9)) (by omega) (by omega) (fun j hj => absurd hj (Nat.not_lt_zero j))) ⟨rfl, rfl, rfl, rfl, rfl, rfl, rfl, trivial⟩
            · refine v_aload_n (pc := 42) C dX5_runLines_42 rfl ?_
              refine v_get (pc := 43) (v := .ref (a 6)) C inX5 0 rfl rfl 6 (by decide) kw3_31 rfl dX5_runLines_43 ?_
              refine v_iload (pc := 46) C dX5_runLines_46 rfl ?_
              refine v_iconst (pc := 48) (v := 0) C dX5_runLines_48 (by decide) ?_
              refine v_iastN (pc := 49) (i := (k)) (f := fc) C 6 rfl (by omega) (by decide) dX5_runLines_49 (ws' := (MW G o a (sA (sA S 5 (v0 inp)) 6 (upd (fc) (k) (0 : Int32))))) rfl ?_
              refine v_iinc1 (pc := 50) C (k) rfl dX5_runLines_50 rfl ?_
              refine v_goto (pc := 53) (tgt := 35) C dX5_runLines_53 (by decide) ?_
              exact V.lessE (ih  (((k) + 1)) ((upd (fc) (k) (0 : Int32))) (by omega) (by omega) (upd_in hfc rfl)) ⟨rfl, rfl, rfl, rfl, rfl, rfl, rfl, trivial⟩
        exact V.lessE (L35 (9) (0) ((mA S 6)) (by omega) (by omega) (fun j hj => absurd hj (Nat.not_lt_zero j))) ⟨rfl, rfl, rfl, rfl, rfl, rfl, rfl, trivial⟩
      · refine v_aload_n (pc := 9) C dX5_runLines_9 rfl ?_
        refine v_get (pc := 10) (v := .ref (a 5)) C inX5 0 rfl rfl 5 (by decide) kw3_30 rfl dX5_runLines_10 ?_
        refine v_iload (pc := 13) C dX5_runLines_13 rfl ?_
        refine v_iload (pc := 15) C dX5_runLines_15 rfl ?_
        refine v_if_neN (pc := 17) (tgt := 24) C (k) rfl (by omega) dX5_runLines_17 (by decide) (fun c_17 => ?_) (fun c_17 => ?_)
        · refine v_iconst (pc := 24) (v := 0) C dX5_runLines_24 (by decide) ?_
          refine v_iastN (pc := 25) (i := (k)) (f := fv) C 5 rfl (by omega) (by decide) dX5_runLines_25 (ws' := (MW G o a (sA S 5 (upd (fv) (k) (0 : Int32))))) rfl ?_
          refine v_iinc1 (pc := 26) C (k) rfl dX5_runLines_26 rfl ?_
          refine v_goto (pc := 29) (tgt := 3) C dX5_runLines_29 (by decide) ?_
          exact V.lessE (ih  (((k) + 1)) ((upd (fv) (k) (0 : Int32))) (by omega) (by omega) (upd_in hfv (by unfold v0; rw [if_neg c_17]))) ⟨rfl, rfl, rfl, rfl, rfl, rfl, rfl, trivial⟩
        · refine v_iload_n (pc := 20) C dX5_runLines_20 rfl ?_
          refine v_goto (pc := 21) (tgt := 25) C dX5_runLines_21 (by decide) ?_
          refine v_iastN (pc := 25) (i := (k)) (f := fv) C 5 rfl (by omega) (by decide) dX5_runLines_25 (ws' := (MW G o a (sA S 5 (upd (fv) (k) (inp))))) rfl ?_
          refine v_iinc1 (pc := 26) C (k) rfl dX5_runLines_26 rfl ?_
          refine v_goto (pc := 29) (tgt := 3) C dX5_runLines_29 (by decide) ?_
          exact V.lessE (ih  (((k) + 1)) ((upd (fv) (k) (inp))) (by omega) (by omega) (upd_in hfv (by subst c_17; rfl))) ⟨rfl, rfl, rfl, rfl, rfl, rfl, rfl, trivial⟩
  exact V.lessE (L3 (5) (0) ((mA S 5)) (by omega) (by omega) (fun j hj => absurd hj (Nat.not_lt_zero j))) ⟨rfl, rfl, rfl, rfl, rfl, rfl, rfl, trivial⟩
end
section
/-! a run depends on its lines alone: not on what stands behind them, nor on rounds left over -/
theorem Mt_cong {O P : Nat → Int32} {n i e : Nat} (hO : ∀ k, k < n → O k = P k) (he : e < n) (h : Mt O i e) : Mt P i e := by
  have hd := dp_cong hO
  have h1 := h.1
  refine ⟨h.1, ?_, ?_, ?_, ?_⟩
  · rw [← hO i (by omega)]; exact h.2.1
  · rw [← hO e he]; exact h.2.2.1
  · rw [← hd (e + 1) he, ← hd i (by omega)]; exact h.2.2.2.1
  · intro j h2 h3
    rw [← hd j (by omega), ← hd i (by omega)]; exact h.2.2.2.2 j h2 h3
theorem st_sim_0 {O X Y P U Z : Nat → Int32} {mk : Int32} {n l : Nat} {v c r : Nat → Int32} {f g : Nat → Int64} (hok : okp O X Y n) (hO : ∀ k, k < n → O k = P k) (hX : ∀ k, k < n → X k = U k) (hY : ∀ k, k < n → Y k = Z k) (hl : l < n) (hf : ∀ k, act O k l → f k = g k) (ho : O l = 0) :
    (stS O X Y mk (l, v, c, r, f)).1 = (stS P U Z mk (l, v, c, r, g)).1 ∧ (stS O X Y mk (l, v, c, r, f)).2.1 = (stS P U Z mk (l, v, c, r, g)).2.1 ∧ (stS O X Y mk (l, v, c, r, f)).2.2.1 = (stS P U Z mk (l, v, c, r, g)).2.2.1 ∧ (stS O X Y mk (l, v, c, r, f)).2.2.2.1 = (stS P U Z mk (l, v, c, r, g)).2.2.2.1 ∧ ∀ k, act O k (stS O X Y mk (l, v, c, r, f)).1 → (stS O X Y mk (l, v, c, r, f)).2.2.2.2 k = (stS P U Z mk (l, v, c, r, g)).2.2.2.2 k := by
  obtain ⟨hn, hw, h0, hlines⟩ := hok
  have eO := hO l hl
  have eX := hX l hl
  have eY := hY l hl
  have nxt : O l ≠ 4 → ∀ k, act O k (l + 1) → f k = g k := by
    intro h4 k hk
    rcases act_next hk with q | q
    · subst q
      obtain ⟨e, a, b, -⟩ := hk
      exact absurd b h4
    · exact hf k q
  rw [st_0 (s := (l, v, c, r, f)) ho, st_0 (s := (l, v, c, r, g)) (show P l = 0 by rw [← eO]; exact ho)]
  exact ⟨rfl, by rw [eX, eY], rfl, rfl, nxt (by rw [ho]; decide)⟩
theorem st_sim_1 {O X Y P U Z : Nat → Int32} {mk : Int32} {n l : Nat} {v c r : Nat → Int32} {f g : Nat → Int64} (hok : okp O X Y n) (hO : ∀ k, k < n → O k = P k) (hX : ∀ k, k < n → X k = U k) (hY : ∀ k, k < n → Y k = Z k) (hl : l < n) (hf : ∀ k, act O k l → f k = g k) (ho : O l = 1) :
    (stS O X Y mk (l, v, c, r, f)).1 = (stS P U Z mk (l, v, c, r, g)).1 ∧ (stS O X Y mk (l, v, c, r, f)).2.1 = (stS P U Z mk (l, v, c, r, g)).2.1 ∧ (stS O X Y mk (l, v, c, r, f)).2.2.1 = (stS P U Z mk (l, v, c, r, g)).2.2.1 ∧ (stS O X Y mk (l, v, c, r, f)).2.2.2.1 = (stS P U Z mk (l, v, c, r, g)).2.2.2.1 ∧ ∀ k, act O k (stS O X Y mk (l, v, c, r, f)).1 → (stS O X Y mk (l, v, c, r, f)).2.2.2.2 k = (stS P U Z mk (l, v, c, r, g)).2.2.2.2 k := by
  obtain ⟨hn, hw, h0, hlines⟩ := hok
  have eO := hO l hl
  have eX := hX l hl
  have eY := hY l hl
  have nxt : O l ≠ 4 → ∀ k, act O k (l + 1) → f k = g k := by
    intro h4 k hk
    rcases act_next hk with q | q
    · subst q
      obtain ⟨e, a, b, -⟩ := hk
      exact absurd b h4
    · exact hf k q
  rw [st_1 (s := (l, v, c, r, f)) ho, st_1 (s := (l, v, c, r, g)) (show P l = 1 by rw [← eO]; exact ho)]
  exact ⟨rfl, by rw [eX, eY], rfl, rfl, nxt (by rw [ho]; decide)⟩
theorem st_sim_2 {O X Y P U Z : Nat → Int32} {mk : Int32} {n l : Nat} {v c r : Nat → Int32} {f g : Nat → Int64} (hok : okp O X Y n) (hO : ∀ k, k < n → O k = P k) (hX : ∀ k, k < n → X k = U k) (hY : ∀ k, k < n → Y k = Z k) (hl : l < n) (hf : ∀ k, act O k l → f k = g k) (ho : O l = 2) :
    (stS O X Y mk (l, v, c, r, f)).1 = (stS P U Z mk (l, v, c, r, g)).1 ∧ (stS O X Y mk (l, v, c, r, f)).2.1 = (stS P U Z mk (l, v, c, r, g)).2.1 ∧ (stS O X Y mk (l, v, c, r, f)).2.2.1 = (stS P U Z mk (l, v, c, r, g)).2.2.1 ∧ (stS O X Y mk (l, v, c, r, f)).2.2.2.1 = (stS P U Z mk (l, v, c, r, g)).2.2.2.1 ∧ ∀ k, act O k (stS O X Y mk (l, v, c, r, f)).1 → (stS O X Y mk (l, v, c, r, f)).2.2.2.2 k = (stS P U Z mk (l, v, c, r, g)).2.2.2.2 k := by
  obtain ⟨hn, hw, h0, hlines⟩ := hok
  have eO := hO l hl
  have eX := hX l hl
  have eY := hY l hl
  have nxt : O l ≠ 4 → ∀ k, act O k (l + 1) → f k = g k := by
    intro h4 k hk
    rcases act_next hk with q | q
    · subst q
      obtain ⟨e, a, b, -⟩ := hk
      exact absurd b h4
    · exact hf k q
  rw [st_2 (s := (l, v, c, r, f)) ho, st_2 (s := (l, v, c, r, g)) (show P l = 2 by rw [← eO]; exact ho)]
  exact ⟨rfl, by rw [eX, eY], rfl, rfl, nxt (by rw [ho]; decide)⟩
theorem st_sim_3 {O X Y P U Z : Nat → Int32} {mk : Int32} {n l : Nat} {v c r : Nat → Int32} {f g : Nat → Int64} (hok : okp O X Y n) (hO : ∀ k, k < n → O k = P k) (hX : ∀ k, k < n → X k = U k) (hY : ∀ k, k < n → Y k = Z k) (hl : l < n) (hf : ∀ k, act O k l → f k = g k) (ho : O l = 3) :
    (stS O X Y mk (l, v, c, r, f)).1 = (stS P U Z mk (l, v, c, r, g)).1 ∧ (stS O X Y mk (l, v, c, r, f)).2.1 = (stS P U Z mk (l, v, c, r, g)).2.1 ∧ (stS O X Y mk (l, v, c, r, f)).2.2.1 = (stS P U Z mk (l, v, c, r, g)).2.2.1 ∧ (stS O X Y mk (l, v, c, r, f)).2.2.2.1 = (stS P U Z mk (l, v, c, r, g)).2.2.2.1 ∧ ∀ k, act O k (stS O X Y mk (l, v, c, r, f)).1 → (stS O X Y mk (l, v, c, r, f)).2.2.2.2 k = (stS P U Z mk (l, v, c, r, g)).2.2.2.2 k := by
  obtain ⟨hn, hw, h0, hlines⟩ := hok
  have eO := hO l hl
  have eX := hX l hl
  have eY := hY l hl
  have nxt : O l ≠ 4 → ∀ k, act O k (l + 1) → f k = g k := by
    intro h4 k hk
    rcases act_next hk with q | q
    · subst q
      obtain ⟨e, a, b, -⟩ := hk
      exact absurd b h4
    · exact hf k q
  rw [st_3 (s := (l, v, c, r, f)) ho, st_3 (s := (l, v, c, r, g)) (show P l = 3 by rw [← eO]; exact ho)]
  exact ⟨rfl, by rw [eX, eY], rfl, rfl, nxt (by rw [ho]; decide)⟩
theorem st_sim_4 {O X Y P U Z : Nat → Int32} {mk : Int32} {n l : Nat} {v c r : Nat → Int32} {f g : Nat → Int64} (hok : okp O X Y n) (hO : ∀ k, k < n → O k = P k) (hX : ∀ k, k < n → X k = U k) (hY : ∀ k, k < n → Y k = Z k) (hl : l < n) (hf : ∀ k, act O k l → f k = g k) (ho : O l = 4) :
    (stS O X Y mk (l, v, c, r, f)).1 = (stS P U Z mk (l, v, c, r, g)).1 ∧ (stS O X Y mk (l, v, c, r, f)).2.1 = (stS P U Z mk (l, v, c, r, g)).2.1 ∧ (stS O X Y mk (l, v, c, r, f)).2.2.1 = (stS P U Z mk (l, v, c, r, g)).2.2.1 ∧ (stS O X Y mk (l, v, c, r, f)).2.2.2.1 = (stS P U Z mk (l, v, c, r, g)).2.2.2.1 ∧ ∀ k, act O k (stS O X Y mk (l, v, c, r, f)).1 → (stS O X Y mk (l, v, c, r, f)).2.2.2.2 k = (stS P U Z mk (l, v, c, r, g)).2.2.2.2 k := by
  obtain ⟨hn, hw, h0, hlines⟩ := hok
  have eO := hO l hl
  have eX := hX l hl
  have eY := hY l hl
  have nxt : O l ≠ 4 → ∀ k, act O k (l + 1) → f k = g k := by
    intro h4 k hk
    rcases act_next hk with q | q
    · subst q
      obtain ⟨e, a, b, -⟩ := hk
      exact absurd b h4
    · exact hf k q
  obtain ⟨e, hm, he⟩ := mt_of_open hw h0 hl (Or.inl ho)
  rw [st_4 (s := (l, v, c, r, f)) ho, st_4 (s := (l, v, c, r, g)) (show P l = 4 by rw [← eO]; exact ho)]
  have e1 : mtf O l = e := hm.E
  have e2 : mtf P l = e := (Mt_cong hO he hm).E
  simp only [eX, e1, e2]
  refine ⟨trivial, trivial, trivial, trivial, fun k hk => ?_⟩
  by_cases q : k = l
  · subst q; simp [vp_updL]
  · simp only [vp_updL, q, if_false]
    by_cases z : 0 < (v (tn (U l))).toInt64
    · rw [if_pos z] at hk
      exact (act_next hk).elim (fun w => absurd w q) (hf k)
    · rw [if_neg z] at hk
      exact hf k (act_jump hm hk).2
theorem st_sim_5 {O X Y P U Z : Nat → Int32} {mk : Int32} {n l : Nat} {v c r : Nat → Int32} {f g : Nat → Int64} (hok : okp O X Y n) (hO : ∀ k, k < n → O k = P k) (hX : ∀ k, k < n → X k = U k) (hY : ∀ k, k < n → Y k = Z k) (hl : l < n) (hf : ∀ k, act O k l → f k = g k) (ho : O l = 5) :
    (stS O X Y mk (l, v, c, r, f)).1 = (stS P U Z mk (l, v, c, r, g)).1 ∧ (stS O X Y mk (l, v, c, r, f)).2.1 = (stS P U Z mk (l, v, c, r, g)).2.1 ∧ (stS O X Y mk (l, v, c, r, f)).2.2.1 = (stS P U Z mk (l, v, c, r, g)).2.2.1 ∧ (stS O X Y mk (l, v, c, r, f)).2.2.2.1 = (stS P U Z mk (l, v, c, r, g)).2.2.2.1 ∧ ∀ k, act O k (stS O X Y mk (l, v, c, r, f)).1 → (stS O X Y mk (l, v, c, r, f)).2.2.2.2 k = (stS P U Z mk (l, v, c, r, g)).2.2.2.2 k := by
  obtain ⟨hn, hw, h0, hlines⟩ := hok
  have eO := hO l hl
  have eX := hX l hl
  have eY := hY l hl
  have nxt : O l ≠ 4 → ∀ k, act O k (l + 1) → f k = g k := by
    intro h4 k hk
    rcases act_next hk with q | q
    · subst q
      obtain ⟨e, a, b, -⟩ := hk
      exact absurd b h4
    · exact hf k q
  obtain ⟨e, hm, he⟩ := mt_of_open hw h0 hl (Or.inr ho)
  rw [st_5 (s := (l, v, c, r, f)) ho, st_5 (s := (l, v, c, r, g)) (show P l = 5 by rw [← eO]; exact ho)]
  have e1 : mtf O l = e := hm.E
  have e2 : mtf P l = e := (Mt_cong hO he hm).E
  simp only [eX, eY, e1, e2]
  refine ⟨trivial, trivial, trivial, trivial, fun k hk => ?_⟩
  by_cases z : v (tn (U l)) < v (tn (Z l)) ∨ (¬ mk &&& 8 = 0 ∧ v (tn (U l)) = v (tn (Z l)))
  · rw [if_pos z] at hk
    exact nxt (by rw [ho]; decide) k hk
  · rw [if_neg z] at hk
    exact hf k (act_jump hm hk).2
theorem st_sim_6 {O X Y P U Z : Nat → Int32} {mk : Int32} {n l : Nat} {v c r : Nat → Int32} {f g : Nat → Int64} (hok : okp O X Y n) (hO : ∀ k, k < n → O k = P k) (hX : ∀ k, k < n → X k = U k) (hY : ∀ k, k < n → Y k = Z k) (hl : l < n) (hf : ∀ k, act O k l → f k = g k) (ho : O l = 6) :
    (stS O X Y mk (l, v, c, r, f)).1 = (stS P U Z mk (l, v, c, r, g)).1 ∧ (stS O X Y mk (l, v, c, r, f)).2.1 = (stS P U Z mk (l, v, c, r, g)).2.1 ∧ (stS O X Y mk (l, v, c, r, f)).2.2.1 = (stS P U Z mk (l, v, c, r, g)).2.2.1 ∧ (stS O X Y mk (l, v, c, r, f)).2.2.2.1 = (stS P U Z mk (l, v, c, r, g)).2.2.2.1 ∧ ∀ k, act O k (stS O X Y mk (l, v, c, r, f)).1 → (stS O X Y mk (l, v, c, r, f)).2.2.2.2 k = (stS P U Z mk (l, v, c, r, g)).2.2.2.2 k := by
  obtain ⟨hn, hw, h0, hlines⟩ := hok
  have eO := hO l hl
  have eX := hX l hl
  have eY := hY l hl
  have nxt : O l ≠ 4 → ∀ k, act O k (l + 1) → f k = g k := by
    intro h4 k hk
    rcases act_next hk with q | q
    · subst q
      obtain ⟨e, a, b, -⟩ := hk
      exact absurd b h4
    · exact hf k q
  obtain ⟨i, hm⟩ := mt_of_end ho (hw l hl ho)
  have hi : i < n := Nat.lt_trans hm.1 hl
  rw [st_6 (s := (l, v, c, r, f)) ho, st_6 (s := (l, v, c, r, g)) (show P l = 6 by rw [← eO]; exact ho)]
  have e1 : mtf O l = i := hm.I
  have e2 : mtf P l = i := (Mt_cong hO hl hm).I
  simp only [e1, e2, ← hO i hi]
  by_cases h5 : O i = 5
  · simp only [h5, if_true]
    exact ⟨trivial, trivial, trivial, trivial, nxt (by rw [ho]; decide)⟩
  · simp only [h5, if_false]
    have h4 : O i = 4 := hm.2.1.elim id (fun z => absurd z h5)
    have ei : f i = g i := hf i ⟨l, hm, h4, hm.1, Nat.le_refl l⟩
    simp only [ei]
    refine ⟨trivial, trivial, trivial, trivial, fun k hk => ?_⟩
    by_cases q : k = i
    · subst q; simp [vp_updL]
    · simp only [vp_updL, q, if_false]
      by_cases z : 0 < g i - 1
      · rw [if_pos z] at hk
        exact (act_back hm hk).elim (fun w => absurd w q) (hf k)
      · rw [if_neg z] at hk
        exact nxt (by rw [ho]; decide) k hk
theorem st_sim_7 {O X Y P U Z : Nat → Int32} {mk : Int32} {n l : Nat} {v c r : Nat → Int32} {f g : Nat → Int64} (hok : okp O X Y n) (hO : ∀ k, k < n → O k = P k) (hX : ∀ k, k < n → X k = U k) (hY : ∀ k, k < n → Y k = Z k) (hl : l < n) (hf : ∀ k, act O k l → f k = g k) (ho : O l = 7) :
    (stS O X Y mk (l, v, c, r, f)).1 = (stS P U Z mk (l, v, c, r, g)).1 ∧ (stS O X Y mk (l, v, c, r, f)).2.1 = (stS P U Z mk (l, v, c, r, g)).2.1 ∧ (stS O X Y mk (l, v, c, r, f)).2.2.1 = (stS P U Z mk (l, v, c, r, g)).2.2.1 ∧ (stS O X Y mk (l, v, c, r, f)).2.2.2.1 = (stS P U Z mk (l, v, c, r, g)).2.2.2.1 ∧ ∀ k, act O k (stS O X Y mk (l, v, c, r, f)).1 → (stS O X Y mk (l, v, c, r, f)).2.2.2.2 k = (stS P U Z mk (l, v, c, r, g)).2.2.2.2 k := by
  obtain ⟨hn, hw, h0, hlines⟩ := hok
  have eO := hO l hl
  have eX := hX l hl
  have eY := hY l hl
  have nxt : O l ≠ 4 → ∀ k, act O k (l + 1) → f k = g k := by
    intro h4 k hk
    rcases act_next hk with q | q
    · subst q
      obtain ⟨e, a, b, -⟩ := hk
      exact absurd b h4
    · exact hf k q
  rw [st_7 (s := (l, v, c, r, f)) ho, st_7 (s := (l, v, c, r, g)) (show P l = 7 by rw [← eO]; exact ho)]
  simp only [eX, eY]
  exact ⟨trivial, trivial, trivial, trivial, nxt (by rw [ho]; decide)⟩
theorem st_sim_8 {O X Y P U Z : Nat → Int32} {mk : Int32} {n l : Nat} {v c r : Nat → Int32} {f g : Nat → Int64} (hok : okp O X Y n) (hO : ∀ k, k < n → O k = P k) (hX : ∀ k, k < n → X k = U k) (hY : ∀ k, k < n → Y k = Z k) (hl : l < n) (hf : ∀ k, act O k l → f k = g k) (ho : O l = 8) :
    (stS O X Y mk (l, v, c, r, f)).1 = (stS P U Z mk (l, v, c, r, g)).1 ∧ (stS O X Y mk (l, v, c, r, f)).2.1 = (stS P U Z mk (l, v, c, r, g)).2.1 ∧ (stS O X Y mk (l, v, c, r, f)).2.2.1 = (stS P U Z mk (l, v, c, r, g)).2.2.1 ∧ (stS O X Y mk (l, v, c, r, f)).2.2.2.1 = (stS P U Z mk (l, v, c, r, g)).2.2.2.1 ∧ ∀ k, act O k (stS O X Y mk (l, v, c, r, f)).1 → (stS O X Y mk (l, v, c, r, f)).2.2.2.2 k = (stS P U Z mk (l, v, c, r, g)).2.2.2.2 k := by
  obtain ⟨hn, hw, h0, hlines⟩ := hok
  have eO := hO l hl
  have eX := hX l hl
  have eY := hY l hl
  have nxt : O l ≠ 4 → ∀ k, act O k (l + 1) → f k = g k := by
    intro h4 k hk
    rcases act_next hk with q | q
    · subst q
      obtain ⟨e, a, b, -⟩ := hk
      exact absurd b h4
    · exact hf k q
  rw [st_8 (s := (l, v, c, r, f)) ho, st_8 (s := (l, v, c, r, g)) (show P l = 8 by rw [← eO]; exact ho)]
  simp only [eX, eY]
  exact ⟨trivial, trivial, trivial, trivial, nxt (by rw [ho]; decide)⟩
theorem st_sim_9 {O X Y P U Z : Nat → Int32} {mk : Int32} {n l : Nat} {v c r : Nat → Int32} {f g : Nat → Int64} (hok : okp O X Y n) (hO : ∀ k, k < n → O k = P k) (hX : ∀ k, k < n → X k = U k) (hY : ∀ k, k < n → Y k = Z k) (hl : l < n) (hf : ∀ k, act O k l → f k = g k) (ho : O l = 9) :
    (stS O X Y mk (l, v, c, r, f)).1 = (stS P U Z mk (l, v, c, r, g)).1 ∧ (stS O X Y mk (l, v, c, r, f)).2.1 = (stS P U Z mk (l, v, c, r, g)).2.1 ∧ (stS O X Y mk (l, v, c, r, f)).2.2.1 = (stS P U Z mk (l, v, c, r, g)).2.2.1 ∧ (stS O X Y mk (l, v, c, r, f)).2.2.2.1 = (stS P U Z mk (l, v, c, r, g)).2.2.2.1 ∧ ∀ k, act O k (stS O X Y mk (l, v, c, r, f)).1 → (stS O X Y mk (l, v, c, r, f)).2.2.2.2 k = (stS P U Z mk (l, v, c, r, g)).2.2.2.2 k := by
  obtain ⟨hn, hw, h0, hlines⟩ := hok
  have eO := hO l hl
  have eX := hX l hl
  have eY := hY l hl
  have nxt : O l ≠ 4 → ∀ k, act O k (l + 1) → f k = g k := by
    intro h4 k hk
    rcases act_next hk with q | q
    · subst q
      obtain ⟨e, a, b, -⟩ := hk
      exact absurd b h4
    · exact hf k q
  rw [st_9 (s := (l, v, c, r, f)) ho, st_9 (s := (l, v, c, r, g)) (show P l = 9 by rw [← eO]; exact ho)]
  by_cases h1 : mk &&& 1 = 0
  · simp only [h1, if_true]
    exact ⟨trivial, trivial, trivial, by rw [eX, eY], nxt (by rw [ho]; decide)⟩
  · simp only [h1, if_false]
    exact ⟨trivial, trivial, by rw [eX, eY], by rw [eX, eY], nxt (by rw [ho]; decide)⟩
theorem st_sim {O X Y P U Z : Nat → Int32} {mk : Int32} {n l : Nat} {v c r : Nat → Int32} {f g : Nat → Int64} (hok : okp O X Y n) (hO : ∀ k, k < n → O k = P k) (hX : ∀ k, k < n → X k = U k) (hY : ∀ k, k < n → Y k = Z k) (hl : l < n) (hf : ∀ k, act O k l → f k = g k) :
    (stS O X Y mk (l, v, c, r, f)).1 = (stS P U Z mk (l, v, c, r, g)).1 ∧ (stS O X Y mk (l, v, c, r, f)).2.1 = (stS P U Z mk (l, v, c, r, g)).2.1 ∧ (stS O X Y mk (l, v, c, r, f)).2.2.1 = (stS P U Z mk (l, v, c, r, g)).2.2.1 ∧ (stS O X Y mk (l, v, c, r, f)).2.2.2.1 = (stS P U Z mk (l, v, c, r, g)).2.2.2.1 ∧ ∀ k, act O k (stS O X Y mk (l, v, c, r, f)).1 → (stS O X Y mk (l, v, c, r, f)).2.2.2.2 k = (stS P U Z mk (l, v, c, r, g)).2.2.2.2 k := by
  rcases hok.2.2.2 l hl with ⟨ho, -⟩ | ⟨ho, -⟩ | ⟨ho, -⟩ | ⟨ho, -⟩ | ⟨ho, -⟩ | ⟨ho, -⟩ | ho | ⟨ho, -⟩ | ⟨ho, -⟩ | ⟨ho, -⟩
  · exact st_sim_0 hok hO hX hY hl hf ho
  · exact st_sim_1 hok hO hX hY hl hf ho
  · exact st_sim_2 hok hO hX hY hl hf ho
  · exact st_sim_3 hok hO hX hY hl hf ho
  · exact st_sim_4 hok hO hX hY hl hf ho
  · exact st_sim_5 hok hO hX hY hl hf ho
  · exact st_sim_6 hok hO hX hY hl hf ho
  · exact st_sim_7 hok hO hX hY hl hf ho
  · exact st_sim_8 hok hO hX hY hl hf ho
  · exact st_sim_9 hok hO hX hY hl hf ho
/-- two runs' ends, but for the rounds left -/
def eqx (r q : Nat × (Nat → Int32) × RS) : Prop := r.1 = q.1 ∧ r.2.1 = q.2.1 ∧ r.2.2.1 = q.2.2.1 ∧ r.2.2.2.1 = q.2.2.2.1 ∧ r.2.2.2.2.1 = q.2.2.2.2.1 ∧ r.2.2.2.2.2.1 = q.2.2.2.2.2.1
theorem rn_sim {O X Y P U Z : Nat → Int32} {mk : Int32} {n : Nat} (hok : okp O X Y n) (hO : ∀ k, k < n → O k = P k) (hX : ∀ k, k < n → X k = U k) (hY : ∀ k, k < n → Y k = Z k) : ∀ (fu : Nat) (t : Nat → Int32) (s s' : RS), s.1 = s'.1 → s.2.1 = s'.2.1 → s.2.2.1 = s'.2.2.1 → s.2.2.2.1 = s'.2.2.2.1 → (∀ k, act O k s.1 → s.2.2.2.2 k = s'.2.2.2.2 k) → eqx (rnS O X Y n mk fu t s) (rnS P U Z n mk fu t s') := by
  intro fu
  induction fu with
  | zero =>
    intro t s s' h1 h2 h3 h4 h5
    exact ⟨rfl, rfl, h1, h2, h3, h4⟩
  | succ fu ih =>
    intro t s s' h1 h2 h3 h4 h5
    obtain ⟨l, v, c, r, f⟩ := s
    obtain ⟨l', v', c', r', g⟩ := s'
    simp only at h1 h2 h3 h4
    subst h1; subst h2; subst h3; subst h4
    by_cases hl : l < n
    · rw [rnS_step (s := (l, v, c, r, f)) hl, rnS_step (s := (l, v, c, r, g)) hl]
      obtain ⟨a1, a2, a3, a4, a5⟩ := st_sim (mk := mk) (v := v) (c := c) (r := r) hok hO hX hY hl h5
      obtain ⟨b1, b2, b3, b4, b5, b6⟩ := ih (upd t l (t l + 1)) _ _ a1 a2 a3 a4 a5
      exact ⟨by simp only [b1], b2, b3, b4, b5, b6⟩
    · rw [rnS_stop (s := (l, v, c, r, f)) hl, rnS_stop (s := (l, v, c, r, g)) hl]
      exact ⟨rfl, rfl, rfl, rfl, rfl, rfl⟩
theorem act_0 {f : Nat → Int32} {k : Nat} (h : act f k 0) : False := by obtain ⟨e, -, -, h, -⟩ := h; omega
theorem rnR_sim {O X Y P U Z : Nat → Int32} {mk inp : Int32} {n : Nat} (lf lf2 : Nat → Int64) (hok : okp O X Y n) (hO : ∀ k, k < n → O k = P k) (hX : ∀ k, k < n → X k = U k) (hY : ∀ k, k < n → Y k = Z k) : eqx (rnR O X Y n mk inp lf) (rnR P U Z n mk inp lf2) :=
  rn_sim hok hO hX hY 300 c0 _ _ rfl rfl rfl rfl (fun _ h => (act_0 h).elim)
end
section
/-! the state as both sides mean it, and what each call answers -/
abbrev PA : Type := Nat × (Nat → Nat) × (Nat → Nat → Int32) × (Nat → Nat → Int32) × (Nat → Nat → Int32)
abbrev QA : Type := Nat × (Nat → Nat) × (Nat → Nat) × (Nat → Nat) × (Nat → Nat)
abbrev AS : Type := PA × QA × Option (Nat × (Nat → Int32) × (Nat → Int32)) × List (Int32 × Int32) × List Int32 × (Nat → Nat → Option Int32) × (Nat → Nat)
def aNp (A : AS) : Nat := A.1.1
def aN (A : AS) : Nat → Nat := A.1.2.1
def aO (A : AS) : Nat → Nat → Int32 := A.1.2.2.1
def aX (A : AS) : Nat → Nat → Int32 := A.1.2.2.2.1
def aY (A : AS) : Nat → Nat → Int32 := A.1.2.2.2.2
def aNq (A : AS) : Nat := A.2.1.1
def aQp (A : AS) : Nat → Nat := A.2.1.2.1
def aQi (A : AS) : Nat → Nat := A.2.1.2.2.1
def aQk (A : AS) : Nat → Nat := A.2.1.2.2.2.1
def aQw (A : AS) : Nat → Nat := A.2.1.2.2.2.2
def aT (A : AS) : Option (Nat × (Nat → Int32) × (Nat → Int32)) := A.2.2.1
def aC (A : AS) : List (Int32 × Int32) := A.2.2.2.1
def aF (A : AS) : List Int32 := A.2.2.2.2.1
def aG (A : AS) : Nat → Nat → Option Int32 := A.2.2.2.2.2.1
def aP (A : AS) : Nat → Nat := A.2.2.2.2.2.2
/-- how the reference holds it -/
def MRel (A : AS) (S : MS) : Prop :=
  mI S 4 = nI (aNp A) ∧ (∀ p, p < 10 → mA S 3 p = nI (aN A p)) ∧ (∀ p k, p < 10 → k < 20 → mA S 0 (20 * p + k) = aO A p k ∧ mA S 1 (20 * p + k) = aX A p k ∧ mA S 2 (20 * p + k) = aY A p k) ∧
  mI S 19 = nI (aNq A) ∧ (∀ q, q < aNq A → mA S 15 q = nI (aQp A q) ∧ mA S 16 q = nI (aQi A q) ∧ mA S 17 q = nI (aQk A q) ∧ mA S 18 q = nI (aQw A q)) ∧
  ((aT A = none ∧ mI S 14 = -1) ∨ ∃ n t d, aT A = some (n, t, d) ∧ n ≤ 20 ∧ mI S 14 = nI n ∧ (∀ k, k < 14 → mA S 12 k = t k) ∧ ∀ k, k < 20 → mA S 13 k = d k) ∧
  (mI S 22 = nI (aC A).length ∧ ∀ i v s, (aC A)[i]? = some (v, s) → mA S 20 i = v ∧ mA S 21 i = s) ∧
  (mI S 24 = nI (aF A).length ∧ ∀ i v, (aF A)[i]? = some v → mA S 23 i = v) ∧
  (∀ u q, u < 10 → q < 60 → (aG A u q = none ∧ mA S 26 (60 * u + q) = 0) ∨ ∃ v, aG A u q = some v ∧ mA S 26 (60 * u + q) = 1 ∧ mA S 27 (60 * u + q) = v) ∧
  ∀ k, k < 7 → mA S 28 k = nI (aP A k)
/-- what always holds of it -/
def AInv (A : AS) : Prop :=
  aNp A ≤ 10 ∧ (∀ p, aN A p ≤ 20) ∧ (∀ p, aNp A ≤ p → aN A p = 0) ∧ (∀ p, p < aNp A → wfd (aO A p) (aN A p) ∧ ∀ k, k < aN A p → okl (aO A p k) (aX A p k) (aY A p k)) ∧
  aNq A ≤ 60 ∧ (∀ q, q < aNq A → aQp A q < aNp A ∧ dp (aO A (aQp A q)) (aN A (aQp A q)) = 0 ∧ aQi A q < 10 ∧ aQk A q < 3 ∧ (aQk A q = 0 → aQw A q < 4) ∧ (aQk A q = 1 → aQw A q < aN A (aQp A q)) ∧ (aQk A q = 2 → aQw A q < 8)) ∧
  (aC A).length ≤ 6 ∧ (aF A).length ≤ 19 ∧ (∀ u q, aG A u q ≠ none → q < aNq A) ∧ ∀ k, k < 7 → 1 ≤ aP A k ∧ aP A k ≤ 99
theorem okp_of {A : AS} (h : AInv A) {p : Nat} (hp : p < aNp A) (h0 : dp (aO A p) (aN A p) = 0) : okp (aO A p) (aX A p) (aY A p) (aN A p) :=
  ⟨h.2.1 p, (h.2.2.2.1 p hp).1, h0, (h.2.2.2.1 p hp).2⟩
/-- a run of program p -/
noncomputable def RUN (O X Y : Nat → Int32) (n : Nat) (mk inp : Int32) : Nat × (Nat → Int32) × RS := rnR O X Y n mk inp (fun _ => 0)
noncomputable def aRun (A : AS) (p : Nat) (mk inp : Int32) : Nat × (Nat → Int32) × RS := RUN (aO A p) (aX A p) (aY A p) (aN A p) mk inp
/-- the fourteen things that are told of a run's end -/
def endR (n : Nat) (r : Nat × (Nat → Int32) × RS) (k : Nat) : Int32 :=
  if k < 4 then r.2.2.2.1 k else if k < 12 then r.2.2.2.2.1 (4 * tn (r.2.2.2.2.2.1 (k / 4 - 1)) + k % 4) else if k = 12 then (if r.2.2.1 < n then 1 else 0) else if r.2.2.2.2.2.1 0 = r.2.2.2.2.2.1 1 then 1 else 0
theorem endR_x {n k : Nat} {r q : Nat × (Nat → Int32) × RS} (h : eqx r q) : endR n r k = endR n q k := by
  unfold endR
  rw [h.2.2.1, h.2.2.2.1, h.2.2.2.2.1, h.2.2.2.2.2]
noncomputable def ansA (A : AS) (q : Nat) (mk : Int32) : Int32 :=
  if aQk A q = 0 then (aRun A (aQp A q) mk (nI (aQi A q))).2.2.2.1 (aQw A q) else if aQk A q = 1 then (aRun A (aQp A q) mk (nI (aQi A q))).2.1 (aQw A q) else endR (aN A (aQp A q)) (aRun A (aQp A q) mk (nI (aQi A q))) (4 + aQw A q)
/-- the reference's own fourteen -/
def endM (S : MS) (k : Nat) : Int32 :=
  if k < 4 then mA S 5 k else if k < 12 then mA S 6 (4 * tn (mA S 7 (k / 4 - 1)) + k % 4) else if k = 12 then (if mI S 11 = 0 then 0 else 1) else if mA S 7 0 = mA S 7 1 then 1 else 0
theorem endM_put (S : MS) (n : Nat) (R : Nat × (Nat → Int32) × RS) (k : Nat) : endM (rnPut S n R) k = endR n R k := by
  show (if k < 4 then R.2.2.2.1 k else if k < 12 then R.2.2.2.2.1 (4 * tn (R.2.2.2.2.2.1 (k / 4 - 1)) + k % 4) else if k = 12 then (if (if R.2.2.1 < n then (1 : Int32) else 0) = 0 then 0 else 1) else if R.2.2.2.2.2.1 0 = R.2.2.2.2.2.1 1 then 1 else 0) = _
  unfold endR
  by_cases h : R.2.2.1 < n <;> simp [h]
theorem okr_rn {O X Y : Nat → Int32} {mk : Int32} {n : Nat} (hok : okp O X Y n) : ∀ (fu : Nat) (t : Nat → Int32) (s : RS), okr s.2.2.2.1 → okr (rnS O X Y n mk fu t s).2.2.2.2.2.1 := by
  intro fu
  induction fu with
  | zero => intro t s h; exact h
  | succ fu ih =>
    intro t s h
    by_cases hl : s.1 < n
    · rw [rnS_step hl]; exact ih _ _ (okr_st h (hok.2.2.2 s.1 hl))
    · rw [rnS_stop hl]; exact h
theorem okr_R {O X Y : Nat → Int32} {mk inp : Int32} {n : Nat} {lf : Nat → Int64} (hok : okp O X Y n) : okr (rnR O X Y n mk inp lf).2.2.2.2.2.1 := okr_rn hok 300 c0 _ okr_r0
/-- steps and times are few -/
theorem rn_steps {O X Y : Nat → Int32} {mk : Int32} {n : Nat} : ∀ (fu : Nat) (t : Nat → Int32) (s : RS), (rnS O X Y n mk fu t s).1 ≤ fu := by
  intro fu
  induction fu with
  | zero => intro t s; exact Nat.le_refl 0
  | succ fu ih =>
    intro t s
    by_cases hl : s.1 < n
    · rw [rnS_step hl]; exact Nat.succ_le_succ (ih _ _)
    · rw [rnS_stop hl]; exact Nat.zero_le _
/-- small arguments -/
theorem nbad {j n : Nat} (hj : j < n) (hn : n < 2 ^ 31) : ¬ (nI j < 0 ∨ nI n ≤ nI j) := by
  intro h
  rcases h with h | h
  · exact nI_pos (by omega) h
  · exact nI_ge hj hn h
theorem is01 {p r x : Int32} {n : Nat} (hn : n < 2 ^ 31) (hx : x = nI n) (h : r = if p < 0 ∨ x ≤ p then 0 else 1) : ((p < 0 ∨ nI n ≤ p) ∧ r = 0) ∨ ∃ j, j < n ∧ p = nI j ∧ r = 1 := by
  subst hx
  by_cases q : p < 0 ∨ nI n ≤ p
  · exact Or.inl ⟨q, by rw [h, if_pos q]⟩
  · rcases pk_ix p hn with a | a | ⟨j, a, b⟩
    · exact absurd (Or.inl a) q
    · exact absurd (Or.inr a) q
    · exact Or.inr ⟨j, a, b, by rw [h, if_neg q]⟩
theorem w01 {v lo hi r : Int32} (h : r = if v < lo ∨ hi < v then 0 else 1) : ((v < lo ∨ hi < v) ∧ r = 0) ∨ (¬ (v < lo ∨ hi < v) ∧ r = 1) := by
  by_cases q : v < lo ∨ hi < v
  · exact Or.inl ⟨q, by rw [h, if_pos q]⟩
  · exact Or.inr ⟨q, by rw [h, if_neg q]⟩
theorem wN {v : Int32} {n : Nat} (h : ¬ (v < 0 ∨ nI n < v)) : ∃ j, j < n + 1 ∧ v = nI j := by
  obtain ⟨j, hj, e⟩ := nI_of (x := v) (fun z => h (Or.inl z))
  subst e
  refine ⟨j, ?_, rfl⟩
  rcases Nat.lt_or_ge n j with z | z
  · exact absurd (Or.inr (nI_lt z hj)) h
  · omega
theorem sw_out {x : Int32} {lo hi : Int} (h : ∀ v : Int, lo ≤ v → v ≤ hi → x.toInt ≠ v) : x.toInt < lo ∨ hi < x.toInt := by
  rcases Int.lt_or_le x.toInt lo with q | q
  · exact Or.inl q
  · rcases Int.lt_or_le hi x.toInt with z | z
    · exact Or.inr z
    · exact absurd rfl (h x.toInt q z)
/-- a line that may be added -/
def inw (v lo hi : Int32) : Bool := !(decide (v < lo ∨ hi < v))
def mayB (o a b : Int32) : Bool :=
  if o = 0 then inw a 0 3 && inw b (-99) 99 else if o = 1 then inw a 0 3 && inw b 0 3 else if o = 2 then inw a 0 3 && inw b 0 3 else if o = 3 then inw a 0 3 && inw b 0 3 else if o = 4 then inw a 0 3 && decide (b = 0) else if o = 5 then inw a 0 3 && inw b 0 3 else if o = 6 then decide (a = 0) && decide (b = 0) else if o = 7 then inw a 0 7 && inw b 0 3 else if o = 8 then inw a 0 3 && inw b 0 7 else if o = 9 then inw a 0 1 && inw b 0 1 else false
end
section
/-! the reference: what its small calls answer -/
theorem ixN {x : Int32} {n : Nat} (h1 : ¬ x < 0) (h2 : ¬ nI n ≤ x) (hn : n < 2 ^ 31) : ∃ k, k < n ∧ x = nI k := by
  rcases pk_ix x hn with a | a | ⟨j, a, b⟩
  · exact absurd a h1
  · exact absurd a h2
  · exact ⟨j, a, b⟩
theorem oa_rel {A : AS} {S : MS} {p l : Nat} (hI : AInv A) (hM : MRel A S) (hp : p < aNp A) (hl : l ≤ aN A p) : oaI (fun k => mA S 0 (20 * p + k)) l = nI (dp (aO A p) l) := by
  have hp10 := hI.1
  have hn20 := hI.2.1 p
  have hF : ∀ k, k < aN A p → (fun k => mA S 0 (20 * p + k)) k = aO A p k := fun k hk => (hM.2.2.1 p k (by omega) (by omega)).1
  have hd := dp_cong hF
  have hw : wfd (fun k => mA S 0 (20 * p + k)) (aN A p) := by
    intro k hk h6
    rw [hd k (by omega)]
    exact (hI.2.2.2.1 p hp).1 k hk (by rw [← hF k hk]; exact h6)
  rw [oaI_dp hw l hl, hd l hl]
def NV : Int32 := -2000000000
def s_program (A : AS) : Int32 × AS := if aNp A = 10 then (-2, A) else (nI (aNp A), ((aNp A + 1, A.1.2), A.2))
def s_about (A : AS) (p l w : Int32) : Int32 := if p < 0 ∨ nI (aNp A) ≤ p then NV else if l < 0 then NV else if nI (aN A (tn p)) ≤ l then NV else if w < 0 ∨ 3 < w then NV else if w = 0 then aO A (tn p) (tn l) else if w = 1 then aX A (tn p) (tn l) else if w = 2 then aY A (tn p) (tn l) else nI (dp (aO A (tn p)) (tn l))
def s_whole (A : AS) (p : Int32) : Int32 := if p < 0 ∨ nI (aNp A) ≤ p then -1 else if dp (aO A (tn p)) (aN A (tn p)) = 0 then 1 else 0
def s_told (A : AS) (w : Int32) : Int32 := match aT A with
  | none => NV
  | some (_, t, _) => if w < 0 ∨ 13 < w then NV else t (tn w)
def s_done (A : AS) (l : Int32) : Int32 := match aT A with
  | none => -1
  | some (n, _, d) => if l < 0 then -1 else if nI n ≤ l then -1 else d (tn l)
def s_choice (A : AS) (i w : Int32) : Int32 := if i < 0 then NV else if nI (aC A).length ≤ i then NV else if w < 0 ∨ 1 < w then NV else if w = 0 then ((aC A).getD (tn i) (0, 0)).1 else ((aC A).getD (tn i) (0, 0)).2
def s_filling (A : AS) (i : Int32) : Int32 := if i < 0 then NV else if nI (aF A).length ≤ i then NV else (aF A).getD (tn i) 0
def s_price (A : AS) (k v : Int32) : Int32 × AS := if k < 0 ∨ 6 < k then (-1, A) else if v < 1 ∨ 99 < v then (-1, A) else (nI (aP A (tn k)), (A.1, A.2.1, A.2.2.1, A.2.2.2.1, A.2.2.2.2.1, A.2.2.2.2.2.1, fun j => if j = tn k then tn v else aP A j))
def linesA (A : AS) : Nat → Nat
  | 0 => 0
  | p + 1 => linesA A p + aN A p
def s_count (A : AS) (w : Int32) : Int32 := if w = 0 then nI (aNp A) else if w = 1 then nI (aNq A) else if w = 2 then nI (linesA A (aNp A)) else -1
theorem linesA_le {A : AS} (hI : AInv A) : ∀ p, linesA A p ≤ 20 * p
  | 0 => Nat.le_refl 0
  | p + 1 => by
    have := linesA_le hI p
    have := hI.2.1 p
    show linesA A p + aN A p ≤ _
    omega
theorem if01 {c : Prop} [Decidable c] {r : Int32} (h : r = if c then 1 else 0) : (¬ c ∧ r = 0) ∨ (c ∧ r = 1) := by
  by_cases q : c
  · exact Or.inr ⟨q, by rw [h, if_pos q]⟩
  · exact Or.inl ⟨q, by rw [h, if_neg q]⟩
def rmX5_end : Room := { frames := 0, cells := 0, slots := 0, locals := 0 }
set_option maxHeartbeats 4000000 in
set_option maxRecDepth 100000 in
theorem kX5_end (G : TG) (o : Nat) (a : Nat → Nat) (S : MS) (k : Nat) (hk : k < 14) (hr : okr (mA S 7)) : CT G yX5_end cX5_end 2 (some .int) rmX5_end 0 0 [.ref (o), .int (nI (k))] (MW G o a S) (fun S : MS => MW G o a S) (Ri (fun r S' => S' = S ∧ r = endM S k)) := by
  refine CT.enter (by decide) (Nat.le_of_ble_eq_true rfl) (fun X C hnm => ?_)
  refine V.less [(0, .ref (o)), (1, .int (nI (k)))] ⟨rfl, rfl, trivial⟩ ?_
  refine v_iload_n (pc := 0) C dX5_end_0 rfl ?_
  refine v_iconst (pc := 1) (v := 4) C dX5_end_1 (by decide) ?_
  refine v_icmp_geN (pc := 2) (tgt := 14) C (k) 4 rfl rfl (by omega) (by omega) dX5_end_2 (by decide) (fun c_2 => ?_) (fun c_2 => ?_)
  · refine v_iload_n (pc := 14) C dX5_end_14 rfl ?_
    refine v_bipush (pc := 15) (v := 12) C dX5_end_15 (by decide) ?_
    refine v_icmp_geN (pc := 17) (tgt := 44) C (k) 12 rfl rfl (by omega) (by omega) dX5_end_17 (by decide) (fun c_17 => ?_) (fun c_17 => ?_)
    · refine v_iload_n (pc := 44) C dX5_end_44 rfl ?_
      refine v_bipush (pc := 45) (v := 12) C dX5_end_45 (by decide) ?_
      refine v_icmp_neN (pc := 47) (tgt := 65) C (k) 12 rfl rfl (by omega) (by omega) dX5_end_47 (by decide) (fun c_47 => ?_) (fun c_47 => ?_)
      · refine v_aload_n (pc := 65) C dX5_end_65 rfl ?_
        refine v_get (pc := 66) (v := .ref (a 7)) C inX5 0 rfl rfl 7 (by decide) kw3_32 rfl dX5_end_66 ?_
        refine v_iconst (pc := 69) (v := 0) C dX5_end_69 (by decide) ?_
        refine v_ialdN (pc := 70) (i := 0) (f := (mA S 7)) C 7 rfl (by omega) (by decide) dX5_end_70 ?_
        refine v_aload_n (pc := 71) C dX5_end_71 rfl ?_
        refine v_get (pc := 72) (v := .ref (a 7)) C inX5 0 rfl rfl 7 (by decide) kw3_32 rfl dX5_end_72 ?_
        refine v_iconst (pc := 75) (v := 1) C dX5_end_75 (by decide) ?_
        refine v_ialdN (pc := 76) (i := 1) (f := (mA S 7)) C 7 rfl (by omega) (by decide) dX5_end_76 ?_
        refine v_icmp_ne (pc := 77) (tgt := 84) C dX5_end_77 (by decide) (fun c_77 => ?_) (fun c_77 => ?_)
        · refine v_iconst (pc := 84) (v := 0) C dX5_end_84 (by decide) ?_
          exact v_iret (pc := 85) C dX5_end_85 (rfl) (S) rfl (⟨rfl, by unfold endM; rw [if_neg (by omega), if_neg (by omega), if_neg c_47]; simp [c_77]⟩)
        · refine v_iconst (pc := 80) (v := 1) C dX5_end_80 (by decide) ?_
          refine v_goto (pc := 81) (tgt := 85) C dX5_end_81 (by decide) ?_
          exact v_iret (pc := 85) C dX5_end_85 (rfl) (S) rfl (⟨rfl, by unfold endM; rw [if_neg (by omega), if_neg (by omega), if_neg c_47]; simp [c_77]⟩)
      · refine v_aload_n (pc := 50) C dX5_end_50 rfl ?_
        refine v_get (pc := 51) (v := .int (mI S 11)) C inX5 0 rfl rfl 11 (by decide) kw3_36 rfl dX5_end_51 ?_
        refine v_if_eq (pc := 54) (tgt := 61) C dX5_end_54 (by decide) (fun c_54 => ?_) (fun c_54 => ?_)
        · refine v_iconst (pc := 61) (v := 0) C dX5_end_61 (by decide) ?_
          refine v_goto (pc := 62) (tgt := 85) C dX5_end_62 (by decide) ?_
          exact v_iret (pc := 85) C dX5_end_85 (rfl) (S) rfl (⟨rfl, by unfold endM; rw [if_neg (by omega), if_neg (by omega), if_pos c_47]; simp [c_54]⟩)
        · refine v_iconst (pc := 57) (v := 1) C dX5_end_57 (by decide) ?_
          refine v_goto (pc := 58) (tgt := 85) C dX5_end_58 (by decide) ?_
          exact v_iret (pc := 85) C dX5_end_85 (rfl) (S) rfl (⟨rfl, by unfold endM; rw [if_neg (by omega), if_neg (by omega), if_pos c_47]; simp [c_54]⟩)
    · obtain ⟨ρ, hρ, eρ, tρ⟩ := okr_at hr (show k / 4 - 1 < 2 by omega)
      refine v_aload_n (pc := 20) C dX5_end_20 rfl ?_
      refine v_get (pc := 21) (v := .ref (a 6)) C inX5 0 rfl rfl 6 (by decide) kw3_31 rfl dX5_end_21 ?_
      refine v_iconst (pc := 24) (v := 4) C dX5_end_24 (by decide) ?_
      refine v_aload_n (pc := 25) C dX5_end_25 rfl ?_
      refine v_get (pc := 26) (v := .ref (a 7)) C inX5 0 rfl rfl 7 (by decide) kw3_32 rfl dX5_end_26 ?_
      refine v_iload_n (pc := 29) C dX5_end_29 rfl ?_
      refine v_iconst (pc := 30) (v := 4) C dX5_end_30 (by decide) ?_
      refine v_idivN (pc := 31) C (k) 4 rfl rfl (by omega) (by omega) (by omega) dX5_end_31 ?_
      refine v_iconst (pc := 32) (v := 1) C dX5_end_32 (by decide) ?_
      refine v_isubN (pc := 33) C ((k) / 4) 1 rfl rfl (by omega) dX5_end_33 ?_
      refine v_ialdN (pc := 34) (i := (((k) / 4) - 1)) (f := (mA S 7)) C 7 rfl (by omega) (by decide) dX5_end_34 ?_
      refine v_cv (y := (nI (ρ))) (eρ) ?_
      refine v_imulN (pc := 35) C 4 (ρ) rfl rfl dX5_end_35 ?_
      refine v_iload_n (pc := 36) C dX5_end_36 rfl ?_
      refine v_iconst (pc := 37) (v := 4) C dX5_end_37 (by decide) ?_
      refine v_iremN (pc := 38) C (k) 4 rfl rfl (by omega) (by omega) (by omega) dX5_end_38 ?_
      refine v_iaddN (pc := 39) C (4 * (ρ)) ((k) % 4) rfl rfl dX5_end_39 ?_
      refine v_ialdN (pc := 40) (i := ((4 * (ρ)) + ((k) % 4))) (f := (mA S 6)) C 6 rfl (by omega) (by decide) dX5_end_40 ?_
      refine v_goto (pc := 41) (tgt := 85) C dX5_end_41 (by decide) ?_
      exact v_iret (pc := 85) C dX5_end_85 (rfl) (S) rfl (⟨rfl, by unfold endM; rw [if_neg (by omega), if_pos c_17, tρ]⟩)
  · refine v_aload_n (pc := 5) C dX5_end_5 rfl ?_
    refine v_get (pc := 6) (v := .ref (a 5)) C inX5 0 rfl rfl 5 (by decide) kw3_30 rfl dX5_end_6 ?_
    refine v_iload_n (pc := 9) C dX5_end_9 rfl ?_
    refine v_ialdN (pc := 10) (i := (k)) (f := (mA S 5)) C 5 rfl (by omega) (by decide) dX5_end_10 ?_
    refine v_goto (pc := 11) (tgt := 85) C dX5_end_11 (by decide) ?_
    exact v_iret (pc := 85) C dX5_end_85 (rfl) (S) rfl (⟨rfl, by unfold endM; rw [if_pos c_2]⟩)
def rmX5_isWhole : Room := { frames := 1, cells := 0, slots := 0, locals := 25 }
set_option maxHeartbeats 4000000 in
set_option maxRecDepth 100000 in
theorem kX5_isWhole (G : TG) (o : Nat) (a : Nat → Nat) (S : MS) (A : AS) (hI : AInv A) (hM : MRel A S) (p : Nat) (hp : p < aNp A) : CT G yX5_isWhole cX5_isWhole 2 (some .boolean) rmX5_isWhole 0 0 [.ref (o), .int (nI (p))] (MW G o a S) (fun S : MS => MW G o a S) (Ri (fun r S' => S' = S ∧ r = if dp (aO A p) (aN A p) = 0 then 1 else 0)) := by
  refine CT.enter (by decide) (Nat.le_of_ble_eq_true rfl) (fun X C hnm => ?_)
  refine V.less [(0, .ref (o)), (1, .int (nI (p)))] ⟨rfl, rfl, trivial⟩ ?_
  have hnp := hI.1
  have hnq := hI.2.2.2.2.1
  have hd := dp_le (aO A p) (aN A p)
  have hn := hI.2.1 p
  refine v_aload_n (pc := 0) C dX5_isWhole_0 rfl ?_
  refine v_iload_n (pc := 1) C dX5_isWhole_1 rfl ?_
  refine v_aload_n (pc := 2) C dX5_isWhole_2 rfl ?_
  refine v_get (pc := 3) (v := .ref (a 3)) C inX5 0 rfl rfl 3 (by decide) kw3_28 rfl dX5_isWhole_3 ?_
  refine v_iload_n (pc := 6) C dX5_isWhole_6 rfl ?_
  refine v_ialdN (pc := 7) (i := (p)) (f := (mA S 3)) C 4 rfl (by omega) (by decide) dX5_isWhole_7 ?_
  refine v_cv (y := (nI (aN A p))) (hM.2.1 p (by omega)) ?_
  refine v_callV0 (pc := 8) (st := []) (q0 := 0) C (kX5_openAhead G o a S p (aN A p) (by omega) hn) ykX5_openAhead cvX5_openAhead kw3_144 dX5_isWhole_8 rfl rfl rfl rfl rfl (by decide) (Nat.le_of_ble_eq_true rfl) (by decide) rfl (Ri_kk (fun r_8 u_8 h_8 => ?_))
  obtain ⟨e_8, e8⟩ := h_8
  rw [e_8]
  rw [oa_rel hI hM hp (Nat.le_refl _)] at e8
  subst e8
  refine v_if_neN (pc := 11) (tgt := 18) C (dp (aO A p) (aN A p)) rfl (by omega) dX5_isWhole_11 (by decide) (fun c_11 => ?_) (fun c_11 => ?_)
  · refine v_iconst (pc := 18) (v := 0) C dX5_isWhole_18 (by decide) ?_
    exact v_iret (pc := 19) C dX5_isWhole_19 (rfl) (S) rfl (⟨rfl, by rw [if_neg c_11]⟩)
  · refine v_iconst (pc := 14) (v := 1) C dX5_isWhole_14 (by decide) ?_
    refine v_goto (pc := 15) (tgt := 19) C dX5_isWhole_15 (by decide) ?_
    exact v_iret (pc := 19) C dX5_isWhole_19 (rfl) (S) rfl (⟨rfl, by rw [if_pos c_11]⟩)
def rmX5_whole : Room := { frames := 2, cells := 0, slots := 0, locals := 46 }
set_option maxHeartbeats 4000000 in
set_option maxRecDepth 100000 in
theorem kX5_whole (G : TG) (o : Nat) (a : Nat → Nat) (S : MS) (A : AS) (hI : AInv A) (hM : MRel A S) (p : Int32) : CT G yX5_whole cX5_whole 2 (some .int) rmX5_whole 0 0 [.ref (o), .int (p)] (MW G o a S) (fun S : MS => MW G o a S) (Ri (fun r S' => r = s_whole A p ∧ MRel A S')) := by
  refine CT.enter (by decide) (Nat.le_of_ble_eq_true rfl) (fun X C hnm => ?_)
  refine V.less [(0, .ref (o)), (1, .int (p))] ⟨rfl, rfl, trivial⟩ ?_
  have hnp := hI.1
  have hnq := hI.2.2.2.2.1
  refine v_aload_n (pc := 0) C dX5_whole_0 rfl ?_
  refine v_iload_n (pc := 1) C dX5_whole_1 rfl ?_
  refine v_callV0 (pc := 2) (st := []) (q0 := 0) C (kX5_isProgram G o a S p) ykX5_isProgram cvX5_isProgram kw3_134 dX5_whole_2 rfl rfl rfl rfl rfl (by decide) (Nat.le_of_ble_eq_true rfl) (by decide) rfl (Ri_kk (fun r_2 u_2 h_2 => ?_))
  obtain ⟨e_2, h_2⟩ := h_2
  rw [e_2]
  rcases (is01 (by omega) hM.1 h_2) with ⟨b_p, rfl⟩ | ⟨j, hj, rfl, rfl⟩
  · refine v_if_eqT (pc := 5) (tgt := 24) C (by decide) dX5_whole_5 (by decide) ?_
    refine v_iconst (pc := 24) (v := (-1)) C dX5_whole_24 (by decide) ?_
    exact v_iret (pc := 25) C dX5_whole_25 (rfl) (S) rfl (⟨by unfold s_whole; rw [if_pos b_p], hM⟩)
  · refine v_if_eqF (pc := 5) (tgt := 24) C (by decide) dX5_whole_5 (by decide) ?_
    refine v_aload_n (pc := 8) C dX5_whole_8 rfl ?_
    refine v_iload_n (pc := 9) C dX5_whole_9 rfl ?_
    refine v_callV0 (pc := 10) (st := []) (q0 := 0) C (kX5_isWhole G o a S A hI hM j hj) ykX5_isWhole cvX5_isWhole kw3_157 dX5_whole_10 rfl rfl rfl rfl rfl (by decide) (Nat.le_of_ble_eq_true rfl) (by decide) rfl (Ri_kk (fun r_10 u_10 h_10 => ?_))
    obtain ⟨e_10, h_10⟩ := h_10
    rw [e_10]
    rcases (if01 h_10) with ⟨q_10, rfl⟩ | ⟨q_10, rfl⟩
    · refine v_if_eqT (pc := 13) (tgt := 20) C (by decide) dX5_whole_13 (by decide) ?_
      refine v_iconst (pc := 20) (v := 0) C dX5_whole_20 (by decide) ?_
      refine v_goto (pc := 21) (tgt := 25) C dX5_whole_21 (by decide) ?_
      exact v_iret (pc := 25) C dX5_whole_25 (rfl) (S) rfl (⟨by unfold s_whole; rw [tn_nI (n := j) (by omega), if_neg (nbad hj (by omega)), if_neg q_10], hM⟩)
    · refine v_if_eqF (pc := 13) (tgt := 20) C (by decide) dX5_whole_13 (by decide) ?_
      refine v_iconst (pc := 16) (v := 1) C dX5_whole_16 (by decide) ?_
      refine v_goto (pc := 17) (tgt := 25) C dX5_whole_17 (by decide) ?_
      exact v_iret (pc := 25) C dX5_whole_25 (rfl) (S) rfl (⟨by unfold s_whole; rw [tn_nI (n := j) (by omega), if_neg (nbad hj (by omega)), if_pos q_10], hM⟩)
def rmX5_program : Room := { frames := 0, cells := 0, slots := 0, locals := 0 }
set_option maxHeartbeats 4000000 in
set_option maxRecDepth 100000 in
theorem kX5_program (G : TG) (o : Nat) (a : Nat → Nat) (S : MS) (A : AS) (hI : AInv A) (hM : MRel A S)  : CT G yX5_program cX5_program 1 (some .int) rmX5_program 0 0 [.ref (o)] (MW G o a S) (fun S : MS => MW G o a S) (Ri (fun r S' => r = (s_program A).1 ∧ MRel (s_program A).2 S')) := by
  refine CT.enter (by decide) (Nat.le_of_ble_eq_true rfl) (fun X C hnm => ?_)
  refine V.less [(0, .ref (o))] ⟨rfl, trivial⟩ ?_
  have hnp := hI.1
  have hnq := hI.2.2.2.2.1
  refine v_aload_n (pc := 0) C dX5_program_0 rfl ?_
  refine v_get (pc := 1) (v := .int (mI S 4)) C inX5 0 rfl rfl 4 (by decide) kw3_29 rfl dX5_program_1 ?_
  refine v_cv (y := (nI (aNp A))) (hM.1) ?_
  refine v_bipush (pc := 4) (v := 10) C dX5_program_4 (by decide) ?_
  refine v_icmp_neN (pc := 6) (tgt := 12) C (aNp A) 10 rfl rfl (by omega) (by omega) dX5_program_6 (by decide) (fun c_6 => ?_) (fun c_6 => ?_)
  · refine v_aload_n (pc := 12) C dX5_program_12 rfl ?_
    refine v_dup (pc := 13) C dX5_program_13 rfl ?_
    refine v_get (pc := 14) (v := .int (mI S 4)) C inX5 0 rfl rfl 4 (by decide) kw3_29 rfl dX5_program_14 ?_
    refine v_cv (y := (nI (aNp A))) (hM.1) ?_
    refine v_iconst (pc := 17) (v := 1) C dX5_program_17 (by decide) ?_
    refine v_iaddN (pc := 18) C (aNp A) 1 rfl rfl dX5_program_18 ?_
    refine v_put (pc := 19) C inX5 tyX5 tyX5_ok nmX5 0 rfl rfl 4 (by decide) kw3_29 rfl (rfl) rfl (Nat.le_of_ble_eq_true rfl) dX5_program_19 (ws' := (MW G o a (sI S 4 (nI ((aNp A) + 1))))) rfl ?_
    refine v_aload_n (pc := 22) C dX5_program_22 rfl ?_
    refine v_get (pc := 23) (v := .int (nI (((aNp A) + 1)))) C inX5 0 rfl rfl 4 (by decide) kw3_29 rfl dX5_program_23 ?_
    refine v_iconst (pc := 26) (v := 1) C dX5_program_26 (by decide) ?_
    refine v_isubN (pc := 27) C (((aNp A) + 1)) 1 rfl rfl (by omega) dX5_program_27 ?_
    exact v_iret (pc := 28) C dX5_program_28 (rfl) ((sI S 4 (nI ((aNp A) + 1)))) rfl (⟨by unfold s_program; rw [if_neg c_6]; exact congrArg nI (by omega), by unfold s_program; rw [if_neg c_6]; exact ⟨rfl, hM.2⟩⟩)
  · refine v_bipush (pc := 9) (v := (-2)) C dX5_program_9 (by decide) ?_
    exact v_iret (pc := 11) C dX5_program_11 (rfl) (S) rfl (⟨by unfold s_program; rw [if_pos c_6], by unfold s_program; rw [if_pos c_6]; exact hM⟩)
def rmX5_about : Room := { frames := 1, cells := 0, slots := 0, locals := 25 }
set_option maxHeartbeats 4000000 in
set_option maxRecDepth 100000 in
theorem kX5_about (G : TG) (o : Nat) (a : Nat → Nat) (S : MS) (A : AS) (hI : AInv A) (hM : MRel A S) (p l w : Int32) : CT G yX5_about cX5_about 5 (some .int) rmX5_about 0 0 [.ref (o), .int (p), .int (l), .int (w)] (MW G o a S) (fun S : MS => MW G o a S) (Ri (fun r S' => r = s_about A p l w ∧ MRel A S')) := by
  refine CT.enter (by decide) (Nat.le_of_ble_eq_true rfl) (fun X C hnm => ?_)
  refine V.less [(0, .ref (o)), (1, .int (p)), (2, .int (l)), (3, .int (w))] ⟨rfl, rfl, rfl, rfl, trivial⟩ ?_
  have hnp := hI.1
  have hnq := hI.2.2.2.2.1
  refine v_aload_n (pc := 0) C dX5_about_0 rfl ?_
  refine v_iload_n (pc := 1) C dX5_about_1 rfl ?_
  refine v_callV0 (pc := 2) (st := []) (q0 := 0) C (kX5_isProgram G o a S p) ykX5_isProgram cvX5_isProgram kw3_134 dX5_about_2 rfl rfl rfl rfl rfl (by decide) (Nat.le_of_ble_eq_true rfl) (by decide) rfl (Ri_kk (fun r_2 u_2 h_2 => ?_))
  obtain ⟨e_2, h_2⟩ := h_2
  rw [e_2]
  rcases (is01 (by omega) hM.1 h_2) with ⟨b_p, rfl⟩ | ⟨j, hj, rfl, rfl⟩
  · refine v_if_eqT (pc := 5) (tgt := 31) C (by decide) dX5_about_5 (by decide) ?_
    refine v_ldc (pc := 31) C dX5_about_31 kw3_152 ?_
    exact v_iret (pc := 33) C dX5_about_33 (rfl) (S) rfl (⟨by unfold s_about; rw [if_pos b_p]; rfl, hM⟩)
  · refine v_if_eqF (pc := 5) (tgt := 31) C (by decide) dX5_about_5 (by decide) ?_
    refine v_iload_n (pc := 8) C dX5_about_8 rfl ?_
    refine v_if_lt (pc := 9) (tgt := 31) C dX5_about_9 (by decide) (fun c_9 => ?_) (fun c_9 => ?_)
    · refine v_ldc (pc := 31) C dX5_about_31 kw3_152 ?_
      exact v_iret (pc := 33) C dX5_about_33 (rfl) (S) rfl (⟨by unfold s_about; rw [tn_nI (n := j) (by omega), if_neg (nbad hj (by omega)), if_pos c_9]; rfl, hM⟩)
    · refine v_iload_n (pc := 12) C dX5_about_12 rfl ?_
      refine v_aload_n (pc := 13) C dX5_about_13 rfl ?_
      refine v_get (pc := 14) (v := .ref (a 3)) C inX5 0 rfl rfl 3 (by decide) kw3_28 rfl dX5_about_14 ?_
      refine v_iload_n (pc := 17) C dX5_about_17 rfl ?_
      refine v_ialdN (pc := 18) (i := (j)) (f := (mA S 3)) C 4 rfl (by omega) (by decide) dX5_about_18 ?_
      refine v_cv (y := (nI (aN A j))) (hM.2.1 j (by omega)) ?_
      refine v_icmp_ge (pc := 19) (tgt := 31) C dX5_about_19 (by decide) (fun c_19 => ?_) (fun c_19 => ?_)
      · refine v_ldc (pc := 31) C dX5_about_31 kw3_152 ?_
        exact v_iret (pc := 33) C dX5_about_33 (rfl) (S) rfl (⟨by unfold s_about; rw [tn_nI (n := j) (by omega), if_neg (nbad hj (by omega)), if_neg c_9, if_pos c_19]; rfl, hM⟩)
      · have hn := hI.2.1 j
        obtain ⟨k, hk, rfl⟩ := ixN c_9 c_19 (by omega)
        refine v_iload_n (pc := 22) C dX5_about_22 rfl ?_
        refine v_iconst (pc := 23) (v := 0) C dX5_about_23 (by decide) ?_
        refine v_iconst (pc := 24) (v := 3) C dX5_about_24 (by decide) ?_
        refine v_callS0 (pc := 25) (st := []) C (kX5_within G _ w 0 3) ykX5_within kw3_142 kw3_141 dX5_about_25 rfl rfl rfl (by decide) (Nat.le_of_ble_eq_true rfl) (by decide) rfl (Ri_kk (fun r_25 u_25 h_25 => ?_))
        rcases (w01 h_25) with ⟨q_25, rfl⟩ | ⟨q_25, rfl⟩
        · refine v_if_neF (pc := 28) (tgt := 34) C (by decide) dX5_about_28 (by decide) ?_
          refine v_ldc (pc := 31) C dX5_about_31 kw3_152 ?_
          exact v_iret (pc := 33) C dX5_about_33 (rfl) (S) rfl (⟨by unfold s_about; rw [tn_nI (n := j) (by omega), if_neg (nbad hj (by omega)), if_neg c_9, if_neg c_19, if_pos q_25]; rfl, hM⟩)
        · refine v_if_neT (pc := 28) (tgt := 34) C (by decide) dX5_about_28 (by decide) ?_
          refine v_bipush (pc := 34) (v := 20) C dX5_about_34 (by decide) ?_
          refine v_iload_n (pc := 36) C dX5_about_36 rfl ?_
          refine v_imulN (pc := 37) C 20 (j) rfl rfl dX5_about_37 ?_
          refine v_iload_n (pc := 38) C dX5_about_38 rfl ?_
          refine v_iaddN (pc := 39) C (20 * (j)) (k) rfl rfl dX5_about_39 ?_
          refine v_istore (pc := 40) C dX5_about_40 (by decide) ?_
          refine v_iload_n (pc := 42) C dX5_about_42 rfl ?_
          refine v_if_ne (pc := 43) (tgt := 56) C dX5_about_43 (by decide) (fun c_43 => ?_) (fun c_43 => ?_)
          · refine v_iload_n (pc := 56) C dX5_about_56 rfl ?_
            refine v_iconst (pc := 57) (v := 1) C dX5_about_57 (by decide) ?_
            refine v_icmp_ne (pc := 58) (tgt := 71) C dX5_about_58 (by decide) (fun c_58 => ?_) (fun c_58 => ?_)
            · refine v_iload_n (pc := 71) C dX5_about_71 rfl ?_
              refine v_iconst (pc := 72) (v := 2) C dX5_about_72 (by decide) ?_
              refine v_icmp_ne (pc := 73) (tgt := 86) C dX5_about_73 (by decide) (fun c_73 => ?_) (fun c_73 => ?_)
              · refine v_aload_n (pc := 86) C dX5_about_86 rfl ?_
                refine v_iload_n (pc := 87) C dX5_about_87 rfl ?_
                refine v_iload_n (pc := 88) C dX5_about_88 rfl ?_
                refine v_callV0 (pc := 89) (st := []) (q0 := 0) C (kX5_openAhead G o a S j k (by omega) (by omega)) ykX5_openAhead cvX5_openAhead kw3_144 dX5_about_89 rfl rfl rfl rfl rfl (by decide) (Nat.le_of_ble_eq_true rfl) (by decide) rfl (Ri_kk (fun r_89 u_89 h_89 => ?_))
                obtain ⟨e_89, e89⟩ := h_89
                rw [e_89]
                rw [oa_rel hI hM hj (by omega)] at e89
                subst e89
                exact v_iret (pc := 92) C dX5_about_92 (rfl) (S) rfl (⟨by unfold s_about; rw [tn_nI (n := j) (by omega), if_neg (nbad hj (by omega)), tn_nI (n := k) (by omega), if_neg c_9, if_neg c_19, if_neg q_25, if_neg c_43, if_neg c_58, if_neg c_73], hM⟩)
              · refine v_aload_n (pc := 76) C dX5_about_76 rfl ?_
                refine v_get (pc := 77) (v := .ref (a 2)) C inX5 0 rfl rfl 2 (by decide) kw3_27 rfl dX5_about_77 ?_
                refine v_iload (pc := 80) C dX5_about_80 rfl ?_
                refine v_ialdN (pc := 82) (i := ((20 * (j)) + (k))) (f := (mA S 2)) C 3 rfl (by omega) (by decide) dX5_about_82 ?_
                refine v_goto (pc := 83) (tgt := 92) C dX5_about_83 (by decide) ?_
                exact v_iret (pc := 92) C dX5_about_92 (rfl) (S) rfl (⟨by unfold s_about; rw [tn_nI (n := j) (by omega), if_neg (nbad hj (by omega)), tn_nI (n := k) (by omega), if_neg c_9, if_neg c_19, if_neg q_25, if_neg c_43, if_neg c_58, if_pos c_73]; exact (hM.2.2.1 j k (by omega) (by omega)).2.2, hM⟩)
            · refine v_aload_n (pc := 61) C dX5_about_61 rfl ?_
              refine v_get (pc := 62) (v := .ref (a 1)) C inX5 0 rfl rfl 1 (by decide) kw3_26 rfl dX5_about_62 ?_
              refine v_iload (pc := 65) C dX5_about_65 rfl ?_
              refine v_ialdN (pc := 67) (i := ((20 * (j)) + (k))) (f := (mA S 1)) C 2 rfl (by omega) (by decide) dX5_about_67 ?_
              refine v_goto (pc := 68) (tgt := 92) C dX5_about_68 (by decide) ?_
              exact v_iret (pc := 92) C dX5_about_92 (rfl) (S) rfl (⟨by unfold s_about; rw [tn_nI (n := j) (by omega), if_neg (nbad hj (by omega)), tn_nI (n := k) (by omega), if_neg c_9, if_neg c_19, if_neg q_25, if_neg c_43, if_pos c_58]; exact (hM.2.2.1 j k (by omega) (by omega)).2.1, hM⟩)
          · refine v_aload_n (pc := 46) C dX5_about_46 rfl ?_
            refine v_get (pc := 47) (v := .ref (a 0)) C inX5 0 rfl rfl 0 (by decide) kw3_25 rfl dX5_about_47 ?_
            refine v_iload (pc := 50) C dX5_about_50 rfl ?_
            refine v_ialdN (pc := 52) (i := ((20 * (j)) + (k))) (f := (mA S 0)) C 1 rfl (by omega) (by decide) dX5_about_52 ?_
            refine v_goto (pc := 53) (tgt := 92) C dX5_about_53 (by decide) ?_
            exact v_iret (pc := 92) C dX5_about_92 (rfl) (S) rfl (⟨by unfold s_about; rw [tn_nI (n := j) (by omega), if_neg (nbad hj (by omega)), tn_nI (n := k) (by omega), if_neg c_9, if_neg c_19, if_neg q_25, if_pos c_43]; exact (hM.2.2.1 j k (by omega) (by omega)).1, hM⟩)
end
