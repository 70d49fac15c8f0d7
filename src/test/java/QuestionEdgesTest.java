/** The boundary cases of promises 9 to 16; each test bears the number of its promise. */
public final class QuestionEdgesTest extends Desks {
    private static final int VALUE = 0, LINE = 1, CELL = 2;
    private static final int ALL_INPUTS = 1023;

    public static void main(String[] args) throws IllegalAccessException {
        runAll(QuestionEdgesTest.class, 9, 16);
    }

    /** Lines that take so many steps more than the input says. */
    private static int[] lastingWithInput(int steps) {
        return lasting(steps - 1, LOOP, 0, 0, END, 0, 0);
    }

    // ---- 9 question

    static void promise09_boundsOfProgram() {
        CodeQuiz desk = desk();
        desk.program();
        due.is("the first", desk.question(0, 0, VALUE, 0), 0);
        due.is("the last", desk.question(1, 0, VALUE, 0), 1);
        outside("program", p -> desk.question(p, 0, VALUE, 0), 0, 1, NONE);
        due.is("one that there may be later", desk.question(9, 0, VALUE, 0), NONE);
    }

    static void promise09_boundsOfInput() {
        CodeQuiz desk = desk();
        due.is("the least", desk.question(0, 0, VALUE, 0), 0);
        due.is("the greatest", desk.question(0, 9, VALUE, 0), 1);
        outside("input", input -> desk.question(0, input, VALUE, 0), 0, 9, NONE);
    }

    static void promise09_boundsOfKind() {
        CodeQuiz desk = desk(SET, 0, 0);
        due.is("VALUE", desk.question(0, 0, VALUE, 0), 0);
        due.is("LINE", desk.question(0, 0, LINE, 0), 1);
        due.is("CELL", desk.question(0, 0, CELL, 0), 2);
        outside("kind", kind -> desk.question(0, 0, kind, 0), 0, 2, NONE);
    }

    static void promise09_boundsOfAVariable() {
        CodeQuiz desk = desk(SET, 0, 0, SET, 0, 0, SET, 0, 0, SET, 0, 0, SET, 0, 0);
        due.is("the first", desk.question(0, 0, VALUE, 0), 0);
        due.is("the last", desk.question(0, 0, VALUE, 3), 1);
        outside("variable", what -> desk.question(0, 0, VALUE, what), 0, 3, NONE);
    }

    static void promise09_boundsOfALine() {
        CodeQuiz desk = desk(SET, 0, 0, SET, 0, 0);
        due.is("the first", desk.question(0, 0, LINE, 0), 0);
        due.is("the last", desk.question(0, 0, LINE, 1), 1);
        outside("line", what -> desk.question(0, 0, LINE, what), 0, 1, NONE);
    }

    static void promise09_boundsOfACell() {
        CodeQuiz desk = desk();
        due.is("the first", desk.question(0, 0, CELL, 0), 0);
        due.is("the last", desk.question(0, 0, CELL, 7), 1);
        outside("cell", what -> desk.question(0, 0, CELL, what), 0, 7, NONE);
    }

    static void promise09_noProgram() {
        due.is("question", new CodeQuiz().question(0, 0, VALUE, 0), NONE);
    }

    static void promise09_aProgramWithoutLines() {
        CodeQuiz desk = desk();
        due.is("no line to ask of", desk.question(0, 0, LINE, 0), NONE);
        due.is("a variable", desk.question(0, 0, VALUE, 0), 0);
    }

    static void promise09_twentyLines() {
        CodeQuiz desk = desk();
        for (int i = 0; i < 20; i++) {
            desk.line(0, SET, 0, 0);
        }
        due.is("the last", desk.question(0, 0, LINE, 19), 0);
        due.is("none more", desk.question(0, 0, LINE, 20), NONE);
    }

    static void promise09_notWhole() {
        CodeQuiz desk = desk(LOOP, 0, 0);
        due.is("open", desk.question(0, 0, VALUE, 0), STATE);
        due.is("END", desk.line(0, END, 0, 0), 1);
        due.is("whole", desk.question(0, 0, VALUE, 0), 0);
        due.is("LESS is open", desk(LESS, 0, 0).question(0, 0, VALUE, 0), STATE);
    }

    static void promise09_spentAfter300Steps() {
        due.is("300 steps", desk(lasting(300)).question(0, 0, VALUE, 0), 0);
        due.is("301 steps", desk(lasting(301)).question(0, 0, VALUE, 0), STATE);
    }

    static void promise09_spentByItsOwnInputAlone() {
        CodeQuiz desk = desk(lastingWithInput(292));
        due.is("301 steps", desk.question(0, 9, VALUE, 0), STATE);
        due.is("300 steps", desk.question(0, 8, VALUE, 0), 0);
    }

    static void promise09_spentByASlipIsNoHindrance() {
        CodeQuiz desk = desk(lasting(300));
        due.is("question", desk.question(0, 0, VALUE, 0), 0);
        desk.run(0, 0, 2);
        due.is("spent by the slip", desk.told(12), 1);
    }

    static void promise09_noneAheadOfState() {
        CodeQuiz open = desk(LOOP, 0, 0);
        CodeQuiz spent = desk(lasting(301));
        for (CodeQuiz desk : new CodeQuiz[] {open, spent}) {
            due.is("no input", desk.question(0, 10, VALUE, 0), NONE);
            due.is("no kind", desk.question(0, 0, 3, 0), NONE);
            due.is("no variable", desk.question(0, 0, VALUE, 4), NONE);
            due.is("no line", desk.question(0, 0, LINE, 6), NONE);
            due.is("no cell", desk.question(0, 0, CELL, 8), NONE);
        }
    }

    static void promise09_sixtyAndNoMore() {
        CodeQuiz desk = plainQuestions(60);
        due.is("one more", desk.question(0, 0, VALUE, 0), FULL);
        due.is("another one more", desk.question(0, 9, CELL, 7), FULL);
        due.is("count", desk.count(1), 60);
    }

    static void promise09_noneAheadOfFull() {
        CodeQuiz desk = plainQuestions(60);
        due.is("no program", desk.question(1, 0, VALUE, 0), NONE);
        due.is("no input", desk.question(0, 10, VALUE, 0), NONE);
        due.is("no kind", desk.question(0, 0, 3, 0), NONE);
        due.is("no line", desk.question(0, 0, LINE, 0), NONE);
    }

    static void promise09_stateAheadOfFull() {
        CodeQuiz desk = plainQuestions(60);
        int open = add(desk, LOOP, 0, 0);
        int spent = add(desk, lasting(301));
        int whole = add(desk, lasting(300));
        due.is("open", desk.question(open, 0, VALUE, 0), STATE);
        due.is("spent", desk.question(spent, 0, VALUE, 0), STATE);
        due.is("whole and not spent", desk.question(whole, 0, VALUE, 0), FULL);
    }

    static void promise09_theSameAgainIsAnotherQuestion() {
        CodeQuiz desk = desk();
        due.is("first", desk.question(0, 4, VALUE, 0), 0);
        due.is("again", desk.question(0, 4, VALUE, 0), 1);
    }

    private static CodeQuiz sixtyQuestions() {
        CodeQuiz desk = plainQuestions(60);
        add(desk, SET, 1, 1);
        return desk;
    }

    static void promise09_refusedChangesNothing() {
        refused("question of no program", desk -> desk.question(5, 0, VALUE, 0), NONE);
        refused("question with no input", desk -> desk.question(1, 10, VALUE, 0), NONE);
        refused("question of no kind", desk -> desk.question(1, 0, 3, 0), NONE);
        refused("question of no line", desk -> desk.question(1, 0, LINE, 4), NONE);
        refused("question, not whole", desk -> desk.question(2, 0, VALUE, 0), STATE);
        refused("question, spent", desk -> desk.question(4, 0, VALUE, 0), STATE);
        refused("question, full", sixtyQuestions(), sixtyQuestions(), desk -> desk.question(1, 0, VALUE, 0), FULL);
    }

    // ---- 10 answer

    static void promise10_boundsOfQuestion() {
        CodeQuiz desk = desk();
        desk.question(0, 4, VALUE, 0);
        desk.question(0, 5, VALUE, 0);
        due.is("the first", desk.answer(0, 0), 4);
        due.is("the last", desk.answer(1, 0), 5);
        outside("question", q -> desk.answer(q, 0), 0, 1, NO_VALUE);
        due.is("one that there may be later", desk.answer(59, 0), NO_VALUE);
    }

    static void promise10_boundsOfMachine() {
        CodeQuiz desk = desk(PARTS_ALL);
        desk.question(0, 0, VALUE, 2);
        due.is("none", desk.answer(0, 0), 11);
        due.is("all", desk.answer(0, 63), -96);
        outside("machine", machine -> desk.answer(0, machine), 0, 63, NO_VALUE);
    }

    static void promise10_noQuestion() {
        due.is("a program alone", desk(SET, 0, 0).answer(0, 0), NO_VALUE);
    }

    static void promise10_sixtyQuestions() {
        CodeQuiz desk = plainQuestions(59);
        due.is("question", desk.question(0, 9, VALUE, 0), 59);
        due.is("the last", desk.answer(59, 0), 9);
        due.is("none more", desk.answer(60, 0), NO_VALUE);
    }

    static void promise10_firstAndLastOfEachKind() {
        CodeQuiz desk = desk(TOLD_AS_ITSELF);
        int[][] kindWhatWant = {{VALUE, 0, 0}, {VALUE, 3, 3}, {LINE, 0, 1}, {LINE, 3, 4}, {LINE, 12, 1},
            {CELL, 0, 4}, {CELL, 3, 7}, {CELL, 4, 8}, {CELL, 7, 11}};
        for (int q = 0; q < kindWhatWant.length; q++) {
            due.is("question", desk.question(0, 4, kindWhatWant[q][0], kindWhatWant[q][1]), q);
            due.is("answer", desk.answer(q, 0), kindWhatWant[q][2]);
        }
    }

    static void promise10_cellOfTheRowForWhichTheNameStands() {
        CodeQuiz desk = desk(join(TOLD_AS_ITSELF, SHARE, 0, 1));
        desk.question(0, 4, CELL, 0);
        desk.question(0, 4, CELL, 7);
        due.is("name 0", desk.answer(0, 0), 8);
        due.is("name 1", desk.answer(1, 0), 11);
    }

    static void promise10_lineThatIsNotDone() {
        CodeQuiz desk = desk(LOOP, 0, 0, SET, 1, 1, END, 0, 0);
        desk.question(0, 0, LINE, 1);
        due.is("answer", desk.answer(0, 0), 0);
        due.is("by slip 2", desk.answer(0, 2), 0);
    }

    static void promise10_asItIsWhenItIsSpent() {
        CodeQuiz desk = spentBySlip2();
        int[][] kindWhatTrueSpent = {{VALUE, 3, -1, 99}, {LINE, 6, 1, 0}, {LINE, 3, 98, 99}, {CELL, 4, -1, 99}};
        for (int q = 0; q < kindWhatTrueSpent.length; q++) {
            due.is("question", desk.question(0, 0, kindWhatTrueSpent[q][0], kindWhatTrueSpent[q][1]), q);
            due.is("true", desk.answer(q, 0), kindWhatTrueSpent[q][2]);
            due.is("spent", desk.answer(q, 2), kindWhatTrueSpent[q][3]);
        }
    }

    static void promise10_answersAtTheEndsOfTheRange() {
        CodeQuiz desk = desk(join(MIN_IN_1, COPY, 3, 1, SUB, 3, 2, PUT, 0, 1));
        desk.question(0, 0, VALUE, 1);
        desk.question(0, 0, VALUE, 3);
        desk.question(0, 0, CELL, 0);
        due.is("the least", desk.answer(0, 0), MIN);
        due.is("the greatest", desk.answer(1, 0), MAX);
        due.is("in a cell", desk.answer(2, 0), MIN);
    }

    static void promise10_refusedChangesNothing() {
        refused("answer to no question", desk -> desk.answer(3, 0), NO_VALUE);
        refused("answer by no machine", desk -> desk.answer(0, 64), NO_VALUE);
    }

    // ---- 11 choices

    private static CodeQuiz partsAll() {
        CodeQuiz desk = desk(PARTS_ALL);
        due.is("question", desk.question(0, 0, VALUE, 2), 0);
        return desk;
    }

    /** A question that has so many unlike answers by the true machine and single slips: 1 to 5. */
    private static CodeQuiz unlikeAnswers(int n) {
        int[] lines = {SET, 1, 1, SET, 2, 1};
        lines = n < 2 ? lines : join(lines, SUB, 2, 0);                                     // by slip 16 -1
        lines = n < 3 ? lines : join(lines, LOOP, 1, 0, ADD, 2, 1, END, 0, 0);              // 1 or 2 more
        lines = n < 4 ? lines : join(lines, SET, 3, 50, COPY, 3, 0, ADD, 2, 3);             // by slip 4 50 more
        lines = n < 5 ? lines : join(lines, LESS, 1, 1, SET, 2, 9, END, 0, 0);              // by slip 8 9
        CodeQuiz desk = desk(lines);
        due.is("question", desk.question(0, 0, VALUE, 2), 0);
        return desk;
    }

    static void promise11_boundsOfN() {
        CodeQuiz desk = partsAll();
        due.is("the least", desk.choices(0, 2), 2);
        due.is("the greatest", desk.choices(0, 6), 6);
        outside("n", n -> desk.choices(0, n), 2, 6, NONE);
        due.is("0", desk.choices(0, 0), NONE);
    }

    static void promise11_boundsOfQuestion() {
        CodeQuiz desk = partsAll();
        desk.question(0, 0, VALUE, 2);
        due.is("the first", desk.choices(0, 2), 2);
        due.is("the last", desk.choices(1, 2), 2);
        outside("question", q -> desk.choices(q, 2), 0, 1, NONE);
        due.is("one that there may be later", desk.choices(59, 2), NONE);
    }

    static void promise11_noQuestion() {
        due.is("a program alone", desk(PARTS_ALL).choices(0, 2), NONE);
    }

    static void promise11_sixtyQuestions() {
        CodeQuiz desk = plainQuestions(59);
        int p = add(desk, PARTS_ALL);
        due.is("question", desk.question(p, 0, VALUE, 2), 59);
        due.is("the last", desk.choices(59, 6), 6);
        due.is("none more", desk.choices(60, 6), NONE);
    }

    static void promise11_justEnoughAndOneTooFew() {
        for (int unlike = 1; unlike < 6; unlike++) {
            CodeQuiz desk = unlikeAnswers(unlike);
            if (unlike > 1) {
                due.is("just enough", desk.choices(0, unlike), unlike);
            }
            due.is("too few", desk.choices(0, unlike + 1), STATE);
            due.is("too few by far", desk.choices(0, 6), STATE);
        }
        due.is("just enough", richDesk().choices(0, 6), 6);
    }

    static void promise11_sixOfSeven() {
        CodeQuiz desk = partsAll();
        desk.choices(0, 6);
        for (int i = 0; i < 6; i++) {
            due.is("value", desk.choice(i, 0), PARTS_ALL_ANSWERS[i]);
            due.is("slip", desk.choice(i, 1), i == 0 ? 0 : 1 << (i - 1));
        }
    }

    static void promise11_twoSlipsThatGiveTheSame() {
        CodeQuiz desk = desk(SET, 1, 2, SUB, 1, 0, SET, 0, -1, COPY, 0, 1);
        desk.question(0, 1, VALUE, 0);
        due.is("true", desk.answer(0, 0), 1);
        due.is("by COPY", desk.answer(0, 4), -1);
        due.is("by SUB", desk.answer(0, 16), -1);
        due.is("too few", desk.choices(0, 3), STATE);
        due.is("two", desk.choices(0, 2), 2);
        due.is("the lesser bit", desk.choice(1, 1), 4);
    }

    static void promise11_aSlipThatGivesTheRightAnswer() {
        CodeQuiz desk = desk(SET, 1, 5, SUB, 1, 0);
        desk.question(0, 5, VALUE, 1);
        due.is("5 - 5 both ways", desk.choices(0, 2), STATE);
        desk.question(0, 4, VALUE, 1);
        due.is("5 - 4 and 4 - 5", desk.choices(1, 2), 2);
    }

    static void promise11_theAnswerOfASpentRunIsAChoice() {
        CodeQuiz desk = spentBySlip2();
        desk.question(0, 0, VALUE, 3);
        due.is("two", desk.choices(0, 2), 2);
        due.is("right", desk.choice(0, 0), -1);
        due.is("as it is when it is spent", desk.choice(1, 0), 99);
        due.is("by slip 2", desk.choice(1, 1), 2);
    }

    static void promise11_noneAheadOfState() {
        CodeQuiz desk = unlikeAnswers(1);
        due.is("n too small", desk.choices(0, 1), NONE);
        due.is("n too large", desk.choices(0, 7), NONE);
        due.is("too few", desk.choices(0, 2), STATE);
    }

    static void promise11_refusedChangesNothing() {
        refused("choices of no question", desk -> desk.choices(3, 2), NONE);
        refused("choices of 1", desk -> desk.choices(1, 1), NONE);
        refused("choices of 7", desk -> desk.choices(1, 7), NONE);
        refused("choices, too few", desk -> desk.choices(1, 6), STATE);
        refused("choices, too few", desk -> desk.choices(2, 2), STATE);
    }

    // ---- 12 choice

    static void promise12_boundsOfI() {
        CodeQuiz desk = partsAll();
        for (int n = 2; n <= 6; n++) {
            due.is("choices", desk.choices(0, n), n);
            due.is("the first", desk.choice(0, 0), PARTS_ALL_ANSWERS[0]);
            due.is("the last", desk.choice(n - 1, 0), PARTS_ALL_ANSWERS[n - 1]);
            outside("i", i -> desk.choice(i, 0), 0, n - 1, NO_VALUE);
            outside("i", i -> desk.choice(i, 1), 0, n - 1, NO_VALUE);
        }
    }

    static void promise12_boundsOfWhat() {
        CodeQuiz desk = partsAll();
        desk.choices(0, 2);
        due.is("the choice", desk.choice(1, 0), 10);
        due.is("the slip", desk.choice(1, 1), 1);
        outside("what", what -> desk.choice(1, what), 0, 1, NO_VALUE);
    }

    static void promise12_theRightAnswerHasNoSlip() {
        CodeQuiz desk = partsAll();
        desk.choices(0, 2);
        due.is("slip", desk.choice(0, 1), 0);
    }

    static void promise12_beforeAny() {
        CodeQuiz desk = partsAll();
        due.is("choice", desk.choice(0, 0), NO_VALUE);
        due.is("slip", desk.choice(0, 1), NO_VALUE);
    }

    static void promise12_refusedChoicesAreNone() {
        CodeQuiz desk = unlikeAnswers(2);
        desk.choices(0, 3);
        desk.choices(0, 7);
        desk.choices(1, 2);
        due.is("choice", desk.choice(0, 0), NO_VALUE);
    }

    static void promise12_refusedChoicesLeaveTheLatest() {
        CodeQuiz desk = partsAll();
        int p = add(desk, SET, 2, 5, SUB, 2, 0);
        due.is("question", desk.question(p, 3, VALUE, 2), 1);
        desk.choices(0, 4);
        due.is("too few", desk.choices(1, 3), STATE);
        due.is("no n", desk.choices(1, 7), NONE);
        due.is("no question", desk.choices(2, 2), NONE);
        for (int i = 0; i < 4; i++) {
            due.is("as it was", desk.choice(i, 0), PARTS_ALL_ANSWERS[i]);
        }
        due.is("not more", desk.choice(4, 0), NO_VALUE);
    }

    static void promise12_theLatestTakesThePlace() {
        CodeQuiz desk = partsAll();
        int p = add(desk, SET, 2, 5, SUB, 2, 0);
        desk.question(p, 3, VALUE, 2);
        desk.choices(0, 6);
        desk.choices(1, 2);
        due.is("right", desk.choice(0, 0), 2);
        due.is("wrong", desk.choice(1, 0), -2);
        due.is("by", desk.choice(1, 1), 16);
        due.is("none of the earlier ones", desk.choice(2, 0), NO_VALUE);
    }

    static void promise12_refusedChangesNothing() {
        refused("choice of no i", desk -> desk.choice(3, 0), NO_VALUE);
        refused("choice of no what", desk -> desk.choice(0, 2), NO_VALUE);
    }

    // ---- 13 gap

    static void promise13_boundsOfProgram() {
        CodeQuiz desk = desk(SET, 1, 4);
        add(desk, SET, 1, 20);
        due.is("the first", desk.gap(0, 0), 1);
        due.is("the last", desk.gap(1, 0), 0);
        outside("program", p -> desk.gap(p, 0), 0, 1, NONE);
        due.is("one that there may be later", desk.gap(9, 0), NONE);
    }

    static void promise13_boundsOfLine() {
        CodeQuiz desk = desk(SET, 1, 4, SET, 1, 20);
        due.is("the first", desk.gap(0, 0), 19);
        due.is("the last", desk.gap(0, 1), 0);
        outside("line", line -> desk.gap(0, line), 0, 1, NONE);
        due.is("one that there may be later", desk.gap(0, 19), NONE);
    }

    static void promise13_noProgram() {
        due.is("gap", new CodeQuiz().gap(0, 0), NONE);
    }

    static void promise13_aProgramWithoutLines() {
        due.is("gap", desk().gap(0, 0), NONE);
    }

    static void promise13_twentyLines() {
        CodeQuiz desk = desk();
        for (int i = 0; i < 20; i++) {
            desk.line(0, SET, 1, i - 12);
        }
        due.is("the first", desk.gap(0, 0), 19);
        due.is("the last", desk.gap(0, 19), 1);
        due.is("its own", desk.filling(0), 7);
        due.is("none more", desk.gap(0, 20), NONE);
    }

    static void promise13_noSet() {
        CodeQuiz desk = desk(SET, 1, 1, COPY, 0, 0, ADD, 0, 0, SUB, 0, 0, LOOP, 0, 0, LESS, 0, 0, END, 0, 0, END, 0, 0,
                PUT, 0, 0, GET, 0, 0, SHARE, 0, 0);
        due.is("SET", desk.gap(0, 0), 1);
        for (int line = 1; line < 11; line++) {
            due.is("line " + line, desk.gap(0, line), STATE);
        }
    }

    static void promise13_notWhole() {
        CodeQuiz desk = desk(SET, 1, 1, LESS, 0, 0);
        due.is("a SET", desk.gap(0, 0), STATE);
        due.is("no SET", desk.gap(0, 1), STATE);
        desk.line(0, END, 0, 0);
        due.is("whole", desk.gap(0, 0), 1);
    }

    static void promise13_noneAheadOfState() {
        CodeQuiz desk = desk(SET, 1, 1, LOOP, 0, 0);
        due.is("no line, not whole", desk.gap(0, 2), NONE);
        due.is("no line, not whole", desk.gap(0, -1), NONE);
    }

    static void promise13_itsOwnCountsFromMinus9To9() {
        for (int own : new int[] {-9, 9}) {
            CodeQuiz desk = desk(SET, 3, own);
            due.is("own " + own, desk.gap(0, 0), 1);
            due.is("own " + own, desk.filling(0), own);
        }
        for (int own : new int[] {-99, -10, 10, 99}) {
            CodeQuiz desk = desk(SET, 3, own);
            due.is("own " + own, desk.gap(0, 0), 0);
            due.is("own " + own, desk.filling(0), NO_VALUE);
        }
    }

    static void promise13_noneAndAllOfThem() {
        CodeQuiz desk = desk(SET, 1, 50, SET, 2, 4, SET, 2, 5);
        due.is("none", desk.gap(0, 0), 0);
        due.is("all", desk.gap(0, 1), 19);
    }

    static void promise13_othersThanItsOwnThoughItIsFarOutside() {
        CodeQuiz desk = desk(SET, 1, -50, LESS, 0, 1, SET, 2, 3, END, 0, 0, SET, 1, 0);
        due.is("no input is less than 0", desk.gap(0, 0), 10);
        due.is("the least", desk.filling(0), -9);
        due.is("the greatest", desk.filling(9), 0);
        CodeQuiz above = desk(SET, 1, 50, LESS, 1, 0, SET, 2, 3, END, 0, 0, SET, 1, 0);
        due.is("no input is more than 9", above.gap(0, 0), 1);
        due.is("9", above.filling(0), 9);
    }

    static void promise13_onlyInput0Tells() {
        CodeQuiz desk = desk(SET, 1, 1, LESS, 0, 1, SET, 2, 3, END, 0, 0);
        due.is("gap", desk.gap(0, 2), 1);
        CodeQuiz never = desk(SET, 1, 0, LESS, 0, 1, SET, 2, 3, END, 0, 0);
        due.is("no input less than 0", never.gap(0, 2), 19);
    }

    static void promise13_onlyInput9Tells() {
        CodeQuiz desk = desk(SET, 1, 8, LESS, 1, 0, SET, 2, 3, END, 0, 0);
        due.is("gap", desk.gap(0, 2), 1);
        CodeQuiz never = desk(SET, 1, 9, LESS, 1, 0, SET, 2, 3, END, 0, 0);
        due.is("no input more than 9", never.gap(0, 2), 19);
    }

    static void promise13_eachVariableCounts() {
        for (int x = 0; x < 4; x++) {
            due.is("variable " + x, desk(SET, x, 5).gap(0, 0), 1);
            due.is("overwritten", desk(SET, x, 5, SET, x, 6).gap(0, 0), 19);
        }
    }

    static void promise13_eachCellCounts() {
        for (int cell = 0; cell < 8; cell++) {
            int put = cell / 4 * 4 + 1;
            int[] lines = {SET, 2, 5, SET, 1, cell % 4, PUT, put, 2, SET, 2, 0};
            due.is("cell " + cell, desk(lines).gap(0, 0), 1);
            due.is("overwritten", desk(join(lines, PUT, put, 2)).gap(0, 0), 19);
        }
    }

    static void promise13_whetherTheNamesShareDoesNotCount() {
        CodeQuiz desk = desk(SET, 1, 5, LESS, 0, 1, SHARE, 1, 0, END, 0, 0, SET, 1, 0);
        due.is("all cells are 0", desk.gap(0, 0), 19);
        CodeQuiz seen = desk(PUT, 0, 0, SET, 1, 5, LESS, 0, 1, SHARE, 1, 0, END, 0, 0, SET, 1, 0);
        due.is("cells show it", seen.gap(0, 1), 1);
        CodeQuiz lost = desk(SET, 1, 5, PUT, 4, 1, SET, 1, 0, SHARE, 1, 0);
        due.is("no name stands for the row any more", lost.gap(0, 0), 19);
    }

    static void promise13_placesWrap() {
        CodeQuiz desk = desk(SET, 1, 5, PUT, 5, 0, SET, 1, 0);
        due.is("gap", desk.gap(0, 0), 5);
        for (int i = 0; i < 5; i++) {
            due.is("filling", desk.filling(i), 4 * i - 7);
        }
    }

    /** A LOOP of y rounds comes last: y rounds of it take 295 + y steps in all. */
    private static CodeQuiz loopAtTheEnd(int own) {
        return desk(lasting(292, SET, 3, own, LOOP, 3, 0, END, 0, 0, SET, 3, 0));
    }

    static void promise13_notSpentWithItsOwn() {
        CodeQuiz desk = loopAtTheEnd(5);
        due.is("300 steps", desk.gap(0, 6), 15);
        due.is("the least", desk.filling(0), -9);
        due.is("the greatest", desk.filling(14), 5);
    }

    /** When it is spent, variable 3 is as it was set; that does not count. */
    static void promise13_spentWithItsOwn() {
        CodeQuiz desk = loopAtTheEnd(6);
        due.is("301 steps", desk.gap(0, 6), 4);
        due.is("the least", desk.filling(0), 6);
        due.is("the greatest", desk.filling(3), 9);
        due.is("own outside", loopAtTheEnd(10).gap(0, 6), 4);
    }

    /** Variable 3 and cells 0 .. 3 are then as they were made by the filling; that does not count. */
    static void promise13_spentBothWaysOnlyThatCounts() {
        int[] put = {SET, 3, 5, PUT, 3, 3};
        due.is("300 steps", desk(join(put, lasting(298))).gap(0, 0), 1);
        due.is("301 steps", desk(join(put, lasting(299))).gap(0, 0), 19);
        int[] own = {SET, 3, 50, PUT, 3, 3};
        due.is("300 steps", desk(join(own, lasting(298))).gap(0, 0), 0);
        due.is("301 steps", desk(join(own, lasting(299))).gap(0, 0), 19);
    }

    /** As in loopAtTheEnd, and then as many steps as the input says. */
    static void promise13_spentByInput9Alone() {
        int[] lines = lasting(282, SET, 3, 5, LOOP, 3, 0, END, 0, 0, SET, 3, 0, LOOP, 0, 0, END, 0, 0);
        due.is("none is spent", desk(lines).gap(0, 6), 15);
        lines[20] = 6;
        CodeQuiz desk = desk(lines);
        due.is("only by 9", desk.gap(0, 6), 1);
        due.is("its own", desk.filling(0), 6);
    }

    static void promise13_aQuestionDoesNotHinder() {
        CodeQuiz desk = desk(SET, 1, 4);
        desk.question(0, 0, VALUE, 1);
        due.is("gap", desk.gap(0, 0), 1);
        due.is("answer after it", desk.answer(0, 0), 4);
    }

    static void promise13_theProgramStaysAsItIs() {
        CodeQuiz desk = desk(SET, 1, -50, SET, 2, 4);
        desk.run(0, 3, 0);
        due.is("gap", desk.gap(0, 0), 0);
        due.is("gap", desk.gap(0, 1), 1);
        due.is("y", desk.about(0, 0, 2), -50);
        due.is("y", desk.about(0, 1, 2), 4);
        ran(desk, 3, 0, 2, 1, -50, 2, 4);
    }

    static void promise13_refusedChangesNothing() {
        refused("gap of no program", desk -> desk.gap(5, 0), NONE);
        refused("gap of no line", desk -> desk.gap(1, 4), NONE);
        refused("gap of no SET", desk -> desk.gap(1, 1), STATE);
        refused("gap, not whole", desk -> desk.gap(2, 0), STATE);
    }

    // ---- 14 filling

    static void promise14_boundsOfI() {
        CodeQuiz desk = desk(SET, 1, 4, SET, 1, 5);
        due.is("19", desk.gap(0, 0), 19);
        due.is("the first", desk.filling(0), -9);
        due.is("the last", desk.filling(18), 9);
        outside("i", desk::filling, 0, 18, NO_VALUE);
        due.is("1", desk.gap(0, 1), 1);
        due.is("the only one", desk.filling(0), 5);
        outside("i", desk::filling, 0, 0, NO_VALUE);
    }

    static void promise14_rising() {
        CodeQuiz desk = desk(SET, 1, 4, SET, 1, 5);
        desk.gap(0, 0);
        for (int i = 0; i < 19; i++) {
            due.is("filling", desk.filling(i), i - 9);
        }
    }

    static void promise14_beforeAny() {
        CodeQuiz desk = desk(SET, 1, 4);
        due.is("filling", desk.filling(0), NO_VALUE);
    }

    static void promise14_aRefusedGapIsNone() {
        CodeQuiz desk = desk(SET, 1, 4, COPY, 0, 0);
        desk.gap(0, 1);
        desk.gap(0, 2);
        due.is("filling", desk.filling(0), NO_VALUE);
    }

    static void promise14_aRefusedGapLeavesTheLatest() {
        CodeQuiz desk = desk(SET, 1, 4, COPY, 0, 0);
        add(desk, SET, 1, 5, LOOP, 0, 0);
        desk.gap(0, 0);
        due.is("no SET", desk.gap(0, 1), STATE);
        due.is("not whole", desk.gap(1, 0), STATE);
        due.is("no line", desk.gap(0, 2), NONE);
        due.is("as it was", desk.filling(0), 4);
        due.is("not more", desk.filling(1), NO_VALUE);
    }

    static void promise14_aGapWithoutFillingsIsTheLatest() {
        CodeQuiz desk = desk(SET, 1, 4, SET, 2, 10);
        desk.gap(0, 0);
        due.is("one", desk.filling(0), 4);
        due.is("none", desk.gap(0, 1), 0);
        due.is("none any more", desk.filling(0), NO_VALUE);
    }

    static void promise14_aLineMoreAfterTheGap() {
        CodeQuiz desk = desk(SET, 1, 4);
        desk.gap(0, 0);
        desk.line(0, SET, 1, 5);
        due.is("as it was", desk.filling(0), 4);
        due.is("as it was", desk.filling(1), NO_VALUE);
    }

    static void promise14_refusedChangesNothing() {
        refused("filling of no i", desk -> desk.filling(1), NO_VALUE);
        refused("filling of no i", desk -> desk.filling(-1), NO_VALUE);
    }

    // ---- 15 why

    static void promise15_boundsOfQuestion() {
        CodeQuiz desk = desk();
        desk.question(0, 4, VALUE, 0);
        desk.question(0, 4, VALUE, 3);
        due.is("the first", desk.why(0, 4), 1 << 4);
        due.is("the last", desk.why(1, 0), ALL_INPUTS);
        outside("question", q -> desk.why(q, 0), 0, 1, NONE);
        due.is("one that there may be later", desk.why(59, 0), NONE);
    }

    static void promise15_noQuestion() {
        due.is("a program alone", desk(SET, 0, 0).why(0, 0), NONE);
    }

    static void promise15_sixtyQuestions() {
        CodeQuiz desk = plainQuestions(60);
        due.is("the last", desk.why(59, 5), 1 << 5);
        due.is("none more", desk.why(60, 5), NONE);
    }

    static void promise15_anotherKind() {
        CodeQuiz desk = desk(SET, 0, 0);
        desk.question(0, 0, LINE, 0);
        desk.question(0, 0, CELL, 0);
        due.is("LINE", desk.why(0, 1), NONE);
        due.is("CELL", desk.why(1, 0), NONE);
    }

    static void promise15_theFirstAndTheLastInput() {
        CodeQuiz desk = desk();
        desk.question(0, 4, VALUE, 0);
        due.is("0", desk.why(0, 0), 1);
        due.is("9", desk.why(0, 9), 512);
        due.is("no input -1", desk.why(0, -1), 0);
        due.is("no input 10", desk.why(0, 10), 0);
    }

    static void promise15_noInputAndAllInputs() {
        CodeQuiz desk = desk(SET, 0, 7);
        desk.question(0, 4, VALUE, 0);
        due.is("none", desk.why(0, 4), 0);
        due.is("all", desk.why(0, 7), ALL_INPUTS);
    }

    static void promise15_valuesAtTheEndsOfTheRange() {
        CodeQuiz desk = desk(join(MIN_IN_1, COPY, 3, 1, SUB, 3, 2));
        desk.question(0, 4, VALUE, 1);
        desk.question(0, 4, VALUE, 3);
        due.is("the least", desk.why(0, MIN), ALL_INPUTS);
        due.is("the greatest", desk.why(1, MAX), ALL_INPUTS);
        due.is("never", desk.why(0, MAX), 0);
        due.is("never", desk.why(0, NO_VALUE), 0);
    }

    static void promise15_noneOfARunThatIsSpent() {
        CodeQuiz desk = desk(lastingWithInput(291));
        desk.question(0, 9, VALUE, 3);
        due.is("300 steps by 9", desk.why(0, 0), ALL_INPUTS);
        CodeQuiz spent = desk(lastingWithInput(292));
        spent.question(0, 8, VALUE, 3);
        due.is("301 steps by 9", spent.why(0, 0), ALL_INPUTS - 512);
        CodeQuiz almostAll = desk(lastingWithInput(300));
        almostAll.question(0, 0, VALUE, 3);
        due.is("301 steps by 1", almostAll.why(0, 0), 1);
    }

    static void promise15_byTheTrueMachine() {
        CodeQuiz desk = desk(SET, 1, 1, LOOP, 0, 0, ADD, 2, 1, END, 0, 0);
        desk.question(0, 9, VALUE, 2);
        due.is("9", desk.why(0, 9), 512);
        due.is("10 by slip 2 alone", desk.why(0, 10), 0);
    }

    static void promise15_refusedChangesNothing() {
        refused("why of no question", desk -> desk.why(3, 0), NONE);
        refused("why of a LINE", desk -> desk.why(1, 0), NONE);
    }

    // ---- 16 same

    static void promise16_boundsOfProgram() {
        CodeQuiz desk = desk();
        add(desk, SET, 0, 0);
        due.is("the first and the last", desk.same(0, 1), 1);
        due.is("the last and the first", desk.same(1, 0), 1);
        outside("the one", p -> desk.same(p, 0), 0, 1, NONE);
        outside("the other", q -> desk.same(0, q), 0, 1, NONE);
        due.is("both", desk.same(2, 2), NONE);
    }

    static void promise16_noProgram() {
        due.is("same", new CodeQuiz().same(0, 0), NONE);
    }

    static void promise16_programsWithoutLines() {
        CodeQuiz desk = desk();
        desk.program();
        due.is("two of them", desk.same(0, 1), 10);
        due.is("one and itself", desk.same(0, 0), 10);
    }

    static void promise16_notWhole() {
        CodeQuiz desk = desk();
        add(desk, LOOP, 0, 0);
        due.is("the one", desk.same(1, 0), STATE);
        due.is("the other", desk.same(0, 1), STATE);
        due.is("both", desk.same(1, 1), STATE);
        desk.line(1, END, 0, 0);
        due.is("none", desk.same(0, 1), 10);
    }

    static void promise16_noneAheadOfState() {
        CodeQuiz desk = desk(LOOP, 0, 0);
        due.is("no other", desk.same(0, 1), NONE);
        due.is("no one", desk.same(1, 0), NONE);
        due.is("no one", desk.same(-1, 0), NONE);
    }

    static void promise16_unlikeByInput0() {
        CodeQuiz desk = desk(SET, 1, 1, LESS, 0, 1, SET, 2, 3, END, 0, 0);
        add(desk, SET, 1, 1);
        due.is("only by 0", desk.same(0, 1), 0);
        CodeQuiz all = desk(SET, 1, 1);
        add(all, SET, 1, 2);
        due.is("the first of all", all.same(0, 1), 0);
    }

    static void promise16_unlikeByInput9() {
        CodeQuiz desk = desk(SET, 1, 8, LESS, 1, 0, SET, 2, 3, END, 0, 0);
        add(desk, SET, 1, 8);
        due.is("only by 9", desk.same(0, 1), 9);
        CodeQuiz never = desk(SET, 1, 9, LESS, 1, 0, SET, 2, 3, END, 0, 0);
        add(never, SET, 1, 9);
        due.is("by none", never.same(0, 1), 10);
    }

    static void promise16_eachVariableCounts() {
        for (int x = 0; x < 4; x++) {
            CodeQuiz desk = desk(SET, x, 5);
            add(desk, SET, x, 6);
            add(desk, SET, x, 7, SET, x, 5);
            due.is("unlike in " + x, desk.same(0, 1), 0);
            due.is("alike in " + x, desk.same(0, 2), 10);
        }
    }

    static void promise16_cellsAndStepsDoNotCount() {
        CodeQuiz desk = desk();
        add(desk, PUT, 0, 0, SHARE, 0, 1, PUT, 7, 0);
        due.is("same", desk.same(0, 1), 10);
    }

    static void promise16_numbersThatWrap() {
        CodeQuiz desk = desk(join(MIN_IN_1, ADD, 1, 1, SET, 2, 0));
        desk.program();
        add(desk, join(MIN_IN_1, SET, 2, 0));
        due.is("twice MIN is 0", desk.same(0, 1), 10);
        due.is("MIN is not 0", desk.same(2, 1), 0);
    }

    /** Takes so many steps more than the input says; all variables but 0 are 0 at the end. */
    private static int[] zeroAfter(int steps) {
        return lasting(steps - 3, SET, 1, 0, SET, 2, 0, LOOP, 0, 0, END, 0, 0);
    }

    static void promise16_oneIsSpent() {
        CodeQuiz desk = desk(zeroAfter(291));
        add(desk, zeroAfter(292));
        add(desk, zeroAfter(293));
        desk.program();
        due.is("300 steps by 9", desk.same(0, 3), 10);
        due.is("301 steps by 9", desk.same(1, 3), 9);
        due.is("301 steps by 9", desk.same(0, 1), 9);
        due.is("301 steps by 8", desk.same(3, 2), 8);
        due.is("301 steps by 8", desk.same(1, 2), 8);
    }

    static void promise16_bothAreSpent() {
        CodeQuiz desk = desk(zeroAfter(292));
        add(desk, join(new int[] {SET, 3, 0}, zeroAfter(291)));
        add(desk, lasting(302));
        add(desk, join(new int[] {SET, 3, 5}, lasting(302)));
        add(desk, lasting(300));
        due.is("by 9, alike by the others", desk.same(0, 1), 10);
        due.is("by all, with other variables", desk.same(2, 3), 10);
        due.is("one of them by all", desk.same(2, 4), 0);
        due.is("one with itself", desk.same(2, 2), 10);
    }

    static void promise16_refusedChangesNothing() {
        refused("same of no program", desk -> desk.same(5, 0), NONE);
        refused("same of no program", desk -> desk.same(0, 5), NONE);
        refused("same, one not whole", desk -> desk.same(2, 0), STATE);
        refused("same, the other not whole", desk -> desk.same(0, 2), STATE);
    }
}
