/** The boundary cases of promises 1 to 5; each test bears the number of its promise. */
public final class ProgramEdgesTest extends Desks {
    public static void main(String[] args) throws IllegalAccessException {
        runAll(ProgramEdgesTest.class, 1, 5);
    }

    // ---- 1 a new object

    static void promise01_noPrograms() {
        CodeQuiz desk = new CodeQuiz();
        due.is("count", desk.count(0), 0);
        due.is("whole", desk.whole(0), NONE);
        due.is("the first one", desk.program(), 0);
    }

    static void promise01_noQuestions() {
        CodeQuiz desk = new CodeQuiz();
        due.is("count", desk.count(1), 0);
        due.is("answer", desk.answer(0, 0), NO_VALUE);
        desk.program();
        due.is("the first one", desk.question(0, 0, 0, 0), 0);
    }

    static void promise01_noLines() {
        CodeQuiz desk = new CodeQuiz();
        due.is("count", desk.count(2), 0);
        due.is("about", desk.about(0, 0, 0), NO_VALUE);
    }

    static void promise01_callsThatNeedAProgram() {
        CodeQuiz desk = new CodeQuiz();
        due.is("line", desk.line(0, SET, 0, 0), NONE);
        due.is("run", desk.run(0, 0, 0), NONE);
        due.is("question", desk.question(0, 0, 0, 0), NONE);
        due.is("gap", desk.gap(0, 0), NONE);
        due.is("same", desk.same(0, 0), NONE);
    }

    static void promise01_callsThatNeedAQuestion() {
        CodeQuiz desk = new CodeQuiz();
        due.is("choices", desk.choices(0, 2), NONE);
        due.is("why", desk.why(0, 0), NONE);
        due.is("give", desk.give(0, 0, 0), NONE);
        due.is("next", desk.next(0), NOTHING);
        due.is("parting", desk.parting(), NOTHING);
    }

    static void promise01_callsThatNeedAnEarlierOne() {
        CodeQuiz desk = new CodeQuiz();
        due.is("told", desk.told(0), NO_VALUE);
        due.is("done", desk.done(0), NONE);
        due.is("choice", desk.choice(0, 0), NO_VALUE);
        due.is("filling", desk.filling(0), NO_VALUE);
    }

    static void promise01_pupilsAndPricesAreThereAtOnce() {
        CodeQuiz desk = new CodeQuiz();
        due.is("cost of none", desk.cost(0, 0), 0);
        due.is("cost of two", desk.cost(9, 48), 6);
        due.is("sets", desk.sets(0), 1);
        due.is("set", desk.set(9, 0), 0);
        due.is("price", desk.price(6, 5), 5);
    }

    static void promise01_twoObjectsShareNothing() {
        CodeQuiz used = usedDesk();
        CodeQuiz fresh = new CodeQuiz();
        for (int what = 0; what < 3; what++) {
            due.is("count", fresh.count(what), 0);
        }
        due.is("told", fresh.told(0), NO_VALUE);
        due.is("choice", fresh.choice(0, 0), NO_VALUE);
        due.is("filling", fresh.filling(0), NO_VALUE);
        due.is("price", fresh.price(1, 99), 3);
        fresh.program();
        fresh.run(0, 8, 0);
        due.is("the used one's price", used.price(1, 7), 7);
        due.is("the used one's run", used.told(0), 3);
        due.is("the used one's programs", used.count(0), 5);
    }

    static void promise01_theLastOf512Calls() {
        CodeQuiz desk = new CodeQuiz();
        desk.program();
        desk.line(0, ADD, 0, 0);
        for (int call = 3; call <= 511; call++) {
            due.is("call " + call, desk.run(0, call % 10, 63), 1);
        }
        due.is("call 512", desk.told(0), 2);
    }

    // ---- 2 program

    static void promise02_tenAndNoMore() {
        CodeQuiz desk = new CodeQuiz();
        for (int p = 0; p < 10; p++) {
            due.is("program", desk.program(), p);
        }
        due.is("one more", desk.program(), FULL);
        due.is("and again", desk.program(), FULL);
    }

    static void promise02_isWithoutLines() {
        CodeQuiz desk = desk(SET, 1, 1);
        due.is("program", desk.program(), 1);
        due.is("about", desk.about(1, 0, 0), NO_VALUE);
        due.is("its first line", desk.line(1, COPY, 0, 0), 0);
    }

    static void promise02_theTenthIsAsGoodAsTheFirst() {
        CodeQuiz desk = tenPrograms();
        due.is("whole", desk.whole(9), 1);
        due.is("line", desk.line(9, SET, 0, 4), 0);
        due.is("run", desk.run(9, 1, 0), 1);
        due.is("question", desk.question(9, 1, 0, 0), 3);
    }

    static void promise02_refusedChangesNothing() {
        refused("program", tenPrograms(), tenPrograms(), CodeQuiz::program, FULL);
    }

    private static CodeQuiz tenPrograms() {
        CodeQuiz desk = usedDesk();
        for (int p = 5; p < 10; p++) {
            due.is("program", desk.program(), p);
        }
        return desk;
    }

    // ---- 3 line

    /** In a program in which a LOOP is open, so that an END would fit. */
    private static void takes(int op, int x, int y, int want) {
        CodeQuiz desk = desk(LOOP, 0, 0);
        due.is("line(0, " + op + ", " + x + ", " + y + ")", desk.line(0, op, x, y), want);
        due.is("lines after it", desk.count(2), want == NONE ? 1 : 2);
    }

    private static void takesWithin(int op, int leastX, int greatestX, int leastY, int greatestY) {
        for (int x : new int[] {leastX, greatestX}) {
            takes(op, x, leastY, 1);
            takes(op, x, greatestY, 1);
            for (int y : new int[] {leastY - 1, greatestY + 1, MIN, MAX}) {
                takes(op, x, y, NONE);
            }
        }
        for (int x : new int[] {leastX - 1, greatestX + 1, MIN, MAX}) {
            takes(op, x, leastY, NONE);
            takes(op, x, greatestY, NONE);
        }
    }

    static void promise03_boundsOfSet() {
        takesWithin(SET, 0, 3, -99, 99);
    }

    static void promise03_boundsOfCopy() {
        takesWithin(COPY, 0, 3, 0, 3);
    }

    static void promise03_boundsOfAdd() {
        takesWithin(ADD, 0, 3, 0, 3);
    }

    static void promise03_boundsOfSub() {
        takesWithin(SUB, 0, 3, 0, 3);
    }

    static void promise03_boundsOfLoop() {
        takesWithin(LOOP, 0, 3, 0, 0);
    }

    static void promise03_boundsOfLess() {
        takesWithin(LESS, 0, 3, 0, 3);
    }

    static void promise03_boundsOfEnd() {
        takesWithin(END, 0, 0, 0, 0);
    }

    static void promise03_boundsOfPut() {
        takesWithin(PUT, 0, 7, 0, 3);
    }

    static void promise03_boundsOfGet() {
        takesWithin(GET, 0, 3, 0, 7);
    }

    static void promise03_boundsOfShare() {
        takesWithin(SHARE, 0, 1, 0, 1);
    }

    static void promise03_boundsOfOp() {
        takes(0, 0, 0, 1);
        takes(9, 0, 0, 1);
        takes(-1, 0, 0, NONE);
        takes(10, 0, 0, NONE);
        takes(MIN, 0, 0, NONE);
        takes(MAX, 0, 0, NONE);
    }

    static void promise03_boundsOfProgram() {
        CodeQuiz desk = desk();
        desk.program();
        due.is("the first", desk.line(0, SET, 0, 0), 0);
        due.is("the last", desk.line(1, SET, 0, 0), 0);
        outside("program", p -> desk.line(p, SET, 0, 0), 0, 1, NONE);
        due.is("one that there may be later", desk.line(9, SET, 0, 0), NONE);
        due.is("one that there is never", desk.line(10, SET, 0, 0), NONE);
    }

    static void promise03_eachProgramNumbersItsLinesFrom0() {
        CodeQuiz desk = desk(SET, 0, 0, SET, 0, 0);
        desk.program();
        due.is("the other's first", desk.line(1, SET, 0, 0), 0);
        due.is("the first's third", desk.line(0, SET, 0, 0), 2);
        due.is("the other's second", desk.line(1, SET, 0, 0), 1);
    }

    static void promise03_endInAProgramWithoutLines() {
        due.is("END", desk().line(0, END, 0, 0), STATE);
    }

    static void promise03_endWithNothingOpenAnyMore() {
        due.is("after SET", desk(SET, 0, 0).line(0, END, 0, 0), STATE);
        due.is("after LOOP and END", desk(LOOP, 0, 0, END, 0, 0).line(0, END, 0, 0), STATE);
        due.is("after LESS and END", desk(LESS, 0, 0, END, 0, 0).line(0, END, 0, 0), STATE);
        CodeQuiz desk = desk(LOOP, 0, 0, LESS, 0, 0, END, 0, 0);
        due.is("the second of two", desk.line(0, END, 0, 0), 3);
        due.is("a third", desk.line(0, END, 0, 0), STATE);
    }

    static void promise03_whatIsOpenElsewhereIsNotClosedHere() {
        CodeQuiz desk = desk(LOOP, 0, 0);
        desk.program();
        due.is("END", desk.line(1, END, 0, 0), STATE);
        due.is("END", desk.line(0, END, 0, 0), 1);
    }

    static void promise03_aQuestionIsOfTheProgram() {
        CodeQuiz desk = desk(SET, 0, 0);
        desk.program();
        due.is("ahead of it", desk.line(0, SET, 0, 0), 1);
        due.is("question", desk.question(0, 0, 0, 0), 0);
        for (int op = 0; op < 10; op++) {
            due.is("op " + op, desk.line(0, op, 0, 0), STATE);
        }
        due.is("of another", desk.line(1, SET, 0, 0), 0);
    }

    static void promise03_aRefusedQuestionIsOfNoProgram() {
        CodeQuiz desk = desk(lasting(301));
        due.is("spent", desk.question(0, 0, 0, 0), STATE);
        due.is("no such variable", desk.question(0, 0, 0, 4), NONE);
        due.is("line", desk.line(0, SET, 0, 0), 6);
    }

    /** Program 0 has 19 lines, all of them SETs. */
    private static CodeQuiz nineteenLines() {
        CodeQuiz desk = desk();
        for (int i = 0; i < 19; i++) {
            due.is("line", desk.line(0, SET, 0, i), i);
        }
        return desk;
    }

    private static CodeQuiz twentyLines() {
        CodeQuiz desk = nineteenLines();
        due.is("the twentieth", desk.line(0, SET, 1, 5), 19);
        return desk;
    }

    static void promise03_twentyAndNoMore() {
        CodeQuiz desk = twentyLines();
        due.is("one more", desk.line(0, SET, 1, 5), FULL);
        due.is("a LOOP more", desk.line(0, LOOP, 1, 0), FULL);
        desk.program();
        due.is("another has room", desk.line(1, SET, 1, 5), 0);
    }

    static void promise03_anEndCountsAsALine() {
        CodeQuiz desk = desk();
        for (int i = 0; i < 10; i++) {
            due.is("LOOP", desk.line(0, LOOP, 0, 0), 2 * i);
            due.is("END", desk.line(0, END, 0, 0), 2 * i + 1);
        }
        due.is("one more", desk.line(0, SET, 0, 0), FULL);
    }

    static void promise03_noRoomForTheEnd() {
        CodeQuiz desk = nineteenLines();
        due.is("a LOOP as the last", desk.line(0, LOOP, 0, 0), 19);
        due.is("its END", desk.line(0, END, 0, 0), FULL);
        due.is("never whole", desk.whole(0), 0);
    }

    static void promise03_noneAheadOfState() {
        CodeQuiz desk = desk();
        due.is("an END that is not as said, nothing open", desk.line(0, END, 1, 0), NONE);
        due.is("an END that is not as said, nothing open", desk.line(0, END, 0, 1), NONE);
        desk.question(0, 0, 0, 0);
        due.is("no OP, and a question", desk.line(0, 10, 0, 0), NONE);
        due.is("no number, and a question", desk.line(0, SET, 0, 100), NONE);
    }

    static void promise03_noneAheadOfFull() {
        CodeQuiz desk = twentyLines();
        due.is("no OP", desk.line(0, -1, 0, 0), NONE);
        due.is("no number", desk.line(0, SET, 0, -100), NONE);
        due.is("no variable", desk.line(0, COPY, 0, 4), NONE);
    }

    static void promise03_stateAheadOfFull() {
        CodeQuiz desk = twentyLines();
        due.is("an END, nothing open", desk.line(0, END, 0, 0), STATE);
        due.is("full", desk.line(0, SET, 0, 0), FULL);
        desk.question(0, 0, 0, 0);
        due.is("a question", desk.line(0, SET, 0, 0), STATE);
    }

    static void promise03_refusedChangesNothing() {
        refused("line of no program", desk -> desk.line(5, SET, 0, 0), NONE);
        refused("line with no OP", desk -> desk.line(1, 10, 0, 0), NONE);
        refused("LOOP that is not as said", desk -> desk.line(1, LOOP, 0, 1), NONE);
        refused("END that is not as said", desk -> desk.line(2, END, 0, 1), NONE);
        refused("END, nothing open", desk -> desk.line(1, END, 0, 0), STATE);
        refused("line, a question", desk -> desk.line(0, LOOP, 0, 0), STATE);
        refused("line, full", twentyLines(), twentyLines(), desk -> desk.line(0, LOOP, 0, 0), FULL);
    }

    // ---- 4 about

    static void promise04_boundsOfWhat() {
        CodeQuiz desk = desk(SET, 3, -99);
        due.is("OP", desk.about(0, 0, 0), SET);
        due.is("x", desk.about(0, 0, 1), 3);
        due.is("y", desk.about(0, 0, 2), -99);
        due.is("open", desk.about(0, 0, 3), 0);
        outside("what", what -> desk.about(0, 0, what), 0, 3, NO_VALUE);
    }

    static void promise04_boundsOfLine() {
        CodeQuiz desk = desk(SET, 1, 7, SET, 2, 8);
        due.is("the first", desk.about(0, 0, 2), 7);
        due.is("the last", desk.about(0, 1, 2), 8);
        outside("line", line -> desk.about(0, line, 2), 0, 1, NO_VALUE);
        due.is("one that there may be later", desk.about(0, 19, 0), NO_VALUE);
    }

    static void promise04_boundsOfProgram() {
        CodeQuiz desk = desk(SET, 1, 7);
        add(desk, SET, 2, 8);
        due.is("the first", desk.about(0, 0, 2), 7);
        due.is("the last", desk.about(1, 0, 2), 8);
        outside("program", p -> desk.about(p, 0, 2), 0, 1, NO_VALUE);
        due.is("one that there may be later", desk.about(9, 0, 0), NO_VALUE);
        due.is("one that there is never", desk.about(10, 0, 0), NO_VALUE);
    }

    static void promise04_noProgram() {
        due.is("about", new CodeQuiz().about(0, 0, 0), NO_VALUE);
    }

    static void promise04_aProgramWithoutLines() {
        due.is("about", desk().about(0, 0, 0), NO_VALUE);
    }

    static void promise04_twentyLines() {
        CodeQuiz desk = twentyLines();
        due.is("the last", desk.about(0, 19, 2), 5);
        due.is("one more", desk.about(0, 20, 2), NO_VALUE);
        due.is("the last but one", desk.about(0, 18, 2), 18);
    }

    static void promise04_theGreatestNumbers() {
        CodeQuiz desk = desk(SET, 0, -99, SET, 0, 99, PUT, 7, 3, GET, 3, 7, SHARE, 1, 1);
        int[][] want = {{0, -99}, {0, 99}, {7, 3}, {3, 7}, {1, 1}};
        for (int line = 0; line < want.length; line++) {
            due.is("x", desk.about(0, line, 1), want[line][0]);
            due.is("y", desk.about(0, line, 2), want[line][1]);
        }
    }

    static void promise04_openAheadOfIt() {
        CodeQuiz desk = desk(SET, 0, 0, LOOP, 0, 0, SET, 0, 0, LESS, 0, 0, SET, 0, 0, END, 0, 0, SET, 0, 0, END, 0, 0,
                SET, 0, 0);
        int[] want = {0, 0, 1, 1, 2, 2, 1, 1, 0};
        for (int line = 0; line < want.length; line++) {
            due.is("line " + line, desk.about(0, line, 3), want[line]);
        }
    }

    static void promise04_openAsDeepAsCanBe() {
        CodeQuiz desk = desk();
        for (int i = 0; i < 20; i++) {
            due.is("line", desk.line(0, i % 2 == 0 ? LOOP : LESS, 0, 0), i);
            due.is("open ahead of it", desk.about(0, i, 3), i);
        }
        CodeQuiz closed = desk();
        for (int i = 0; i < 20; i++) {
            closed.line(0, i < 10 ? LOOP : END, 0, 0);
            due.is("open ahead of it", closed.about(0, i, 3), i <= 10 ? i : 20 - i);
        }
    }

    static void promise04_refusedLinesAreNotThere() {
        CodeQuiz desk = desk(SET, 1, 7);
        desk.line(0, SET, 1, 100);
        desk.line(0, END, 0, 0);
        due.is("about", desk.about(0, 1, 0), NO_VALUE);
    }

    // ---- 5 whole

    static void promise05_boundsOfProgram() {
        CodeQuiz desk = desk();
        add(desk, LOOP, 0, 0);
        due.is("the first", desk.whole(0), 1);
        due.is("the last", desk.whole(1), 0);
        outside("program", desk::whole, 0, 1, NONE);
        due.is("one that there may be later", desk.whole(9), NONE);
    }

    static void promise05_noProgram() {
        due.is("whole", new CodeQuiz().whole(0), NONE);
    }

    static void promise05_tenPrograms() {
        CodeQuiz desk = tenPrograms();
        due.is("the tenth", desk.whole(9), 1);
        due.is("none more", desk.whole(10), NONE);
    }

    static void promise05_aProgramWithoutLines() {
        due.is("whole", desk().whole(0), 1);
    }

    static void promise05_oneIsOpen() {
        due.is("LOOP", desk(LOOP, 0, 0).whole(0), 0);
        due.is("LESS", desk(LESS, 0, 0).whole(0), 0);
        due.is("the outer one", desk(LOOP, 0, 0, LESS, 0, 0, END, 0, 0).whole(0), 0);
        due.is("a second one", desk(LOOP, 0, 0, END, 0, 0, LESS, 0, 0).whole(0), 0);
    }

    static void promise05_noneIsOpen() {
        due.is("no LOOP, no LESS", desk(SET, 0, 0).whole(0), 1);
        due.is("LOOP", desk(LOOP, 0, 0, END, 0, 0).whole(0), 1);
        due.is("LESS", desk(LESS, 0, 0, END, 0, 0).whole(0), 1);
        due.is("both", desk(LOOP, 0, 0, LESS, 0, 0, END, 0, 0, END, 0, 0).whole(0), 1);
    }

    static void promise05_refusedLinesDoNotCount() {
        CodeQuiz desk = desk();
        desk.line(0, LOOP, 4, 0);
        desk.line(0, END, 0, 0);
        due.is("a LOOP that is not as said", desk.whole(0), 1);
        desk.line(0, LOOP, 0, 0);
        desk.line(0, END, 1, 0);
        due.is("an END that is not as said", desk.whole(0), 0);
        CodeQuiz full = twentyLines();
        full.line(0, LOOP, 0, 0);
        due.is("a LOOP for which there is no room", full.whole(0), 1);
    }

    static void promise05_twentyLines() {
        due.is("whole", twentyLines().whole(0), 1);
        CodeQuiz desk = nineteenLines();
        desk.line(0, LESS, 0, 0);
        due.is("the last is open", desk.whole(0), 0);
    }
}
