/** The boundary cases of promises 6 to 8; each test bears the number of its promise. */
public final class RunEdgesTest extends Desks {
    public static void main(String[] args) throws IllegalAccessException {
        runAll(RunEdgesTest.class, 6, 8);
    }

    // ---- 6 run: what is refused

    static void promise06_boundsOfProgram() {
        CodeQuiz desk = desk();
        add(desk, SET, 0, 0);
        due.is("the first", desk.run(0, 0, 0), 0);
        due.is("the last", desk.run(1, 0, 0), 1);
        outside("program", p -> desk.run(p, 0, 0), 0, 1, NONE);
        due.is("one that there may be later", desk.run(9, 0, 0), NONE);
    }

    static void promise06_boundsOfInput() {
        CodeQuiz desk = desk();
        ran(desk, 0, 0, 0, 0, 0);
        ran(desk, 9, 0, 0, 0, 9);
        outside("input", input -> desk.run(0, input, 0), 0, 9, NONE);
    }

    static void promise06_boundsOfMachine() {
        CodeQuiz desk = desk(SET, 0, 0);
        due.is("none", desk.run(0, 0, 0), 1);
        due.is("all", desk.run(0, 0, 63), 1);
        outside("machine", machine -> desk.run(0, 0, machine), 0, 63, NONE);
    }

    static void promise06_noProgram() {
        due.is("run", new CodeQuiz().run(0, 0, 0), NONE);
    }

    static void promise06_notWhole() {
        due.is("LOOP is open", desk(LOOP, 0, 0).run(0, 0, 0), STATE);
        due.is("LESS is open", desk(LESS, 0, 0).run(0, 0, 0), STATE);
        CodeQuiz desk = desk(LOOP, 0, 0, LESS, 0, 0, END, 0, 0);
        due.is("the outer one is open", desk.run(0, 0, 0), STATE);
        desk.line(0, END, 0, 0);
        due.is("none is open", desk.run(0, 0, 0), 1);
    }

    static void promise06_noneAheadOfState() {
        CodeQuiz desk = desk(LOOP, 0, 0);
        due.is("no input", desk.run(0, 10, 0), NONE);
        due.is("no input", desk.run(0, -1, 0), NONE);
        due.is("no machine", desk.run(0, 0, 64), NONE);
        due.is("no machine", desk.run(0, 0, -1), NONE);
    }

    static void promise06_refusedChangesNothing() {
        refused("run of no program", desk -> desk.run(5, 0, 0), NONE);
        refused("run with no input", desk -> desk.run(0, 10, 0), NONE);
        refused("run by no machine", desk -> desk.run(0, 0, 64), NONE);
        refused("run, not whole", desk -> desk.run(2, 0, 0), STATE);
    }

    static void promise06_aQuestionDoesNotHinder() {
        CodeQuiz desk = richDesk();
        ran(desk, 3, 0, 20, 2, 3);
    }

    // ---- 6 run: what is there at first

    static void promise06_aProgramWithoutLines() {
        ran(desk(), 7, 63, 0, 0, 7, 1, 0, 12, 0);
    }

    static void promise06_variablesAtFirst() {
        ran(desk(), 9, 0, 0, 0, 9, 1, 0, 2, 0, 3, 0);
    }

    static void promise06_cellsAtFirst() {
        CodeQuiz desk = desk();
        ran(desk, 9, 0, 0, 13, 0);
        for (int what = 4; what < 12; what++) {
            due.is("cell " + what, desk.told(what), 0);
        }
    }

    static void promise06_eachRunBeginsAnew() {
        CodeQuiz desk = desk(SHARE, 0, 1, SET, 1, 5, SET, 2, 6, SET, 3, 7, PUT, 0, 1, LOOP, 3, 0, ADD, 0, 3, END, 0, 0);
        add(desk);
        ran(desk, 3, 0, 20, 0, 52, 7, 5, 11, 5, 13, 1);
        due.is("done", desk.done(6), 7);
        ran(desk, 3, 0, 20, 0, 52, 7, 5, 11, 5, 13, 1);
        due.is("done", desk.done(6), 7);
        due.is("the empty one", desk.run(1, 2, 0), 0);
        for (int what = 1; what < 14; what++) {
            due.is("told " + what, desk.told(what), 0);
        }
    }

    static void promise06_twentyLines() {
        int[] lines = {};
        for (int i = 0; i < 19; i++) {
            lines = join(lines, ADD, 1, 0);
        }
        ran(desk(join(lines, COPY, 2, 1)), 3, 0, 20, 1, 57, 2, 57);
    }

    // ---- 6 run: LOOP and LESS

    static void promise06_loopOf0() {
        ran(desk(LOOP, 0, 0, SET, 3, 9, END, 0, 0), 0, 0, 1, 3, 0);
    }

    static void promise06_loopOfLessThan0() {
        ran(desk(SET, 1, -1, LOOP, 1, 0, SET, 3, 9, END, 0, 0), 0, 0, 2, 3, 0);
        ran(desk(join(MIN_IN_1, LOOP, 1, 0, SET, 3, 9, END, 0, 0)), 0, 0, 67, 1, MIN, 3, 0);
    }

    static void promise06_loopOf1() {
        ran(desk(LOOP, 0, 0, SET, 3, 9, END, 0, 0), 1, 0, 3, 3, 9);
    }

    static void promise06_loopWithoutLines() {
        ran(desk(LOOP, 0, 0, END, 0, 0), 9, 0, 10, 0, 9);
        ran(desk(LOOP, 0, 0, END, 0, 0), 0, 0, 1, 0, 0);
    }

    static void promise06_loopOfTheGreatestNumber() {
        ran(desk(join(MIN_IN_1, SUB, 1, 2, LOOP, 1, 0, SET, 3, 9, END, 0, 0)), 0, 0, 300, 1, MAX, 3, 9, 12, 1);
    }

    static void promise06_loopCountIsItsOwn() {
        ran(desk(LOOP, 0, 0, SET, 0, 0, END, 0, 0), 4, 0, 9, 0, 0);
        ran(desk(LOOP, 0, 0, SET, 0, 99, END, 0, 0), 4, 0, 9, 0, 99);
        ran(desk(LOOP, 0, 0, LOOP, 0, 0, ADD, 1, 0, END, 0, 0, END, 0, 0), 3, 0, 1 + 3 * (2 + 3 * 2), 1, 27);
    }

    static void promise06_loopInALoopIsCountedAnew() {
        // 1 is 1, then 2, then 3 when it comes to the inner LOOP.
        CodeQuiz desk = desk(SET, 2, 1, LOOP, 0, 0, ADD, 1, 2, LOOP, 1, 0, ADD, 3, 2, END, 0, 0, END, 0, 0);
        ran(desk, 3, 0, 2 + 3 * 3 + 2 * 6, 1, 3, 3, 6);
        due.is("the inner LOOP", desk.done(3), 3);
        due.is("its lines", desk.done(4), 6);
    }

    static void promise06_lessAtTheBound() {
        CodeQuiz desk = desk(SET, 1, 5, LESS, 0, 1, SET, 2, 1, END, 0, 0);
        ran(desk, 4, 0, 4, 2, 1);
        ran(desk, 5, 0, 2, 2, 0);
        ran(desk, 6, 0, 2, 2, 0);
    }

    static void promise06_lessBelow0() {
        CodeQuiz desk = desk(SET, 1, -1, LESS, 1, 0, SET, 2, 1, END, 0, 0);
        ran(desk, 0, 0, 4, 2, 1);
        ran(desk(SET, 1, -1, LESS, 0, 1, SET, 2, 1, END, 0, 0), 0, 0, 2, 2, 0);
    }

    static void promise06_lessOverTheWholeRange() {
        int[] both = join(MIN_IN_1, COPY, 3, 1, SUB, 3, 2);
        ran(desk(join(both, LESS, 1, 3, SET, 0, 7, END, 0, 0)), 0, 0, 71, 0, 7, 1, MIN, 3, MAX);
        ran(desk(join(both, LESS, 3, 1, SET, 0, 7, END, 0, 0)), 0, 0, 69, 0, 0, 1, MIN, 3, MAX);
    }

    static void promise06_lessWithoutLines() {
        CodeQuiz desk = desk(LESS, 1, 0, END, 0, 0);
        ran(desk, 0, 0, 1);
        ran(desk, 1, 0, 2);
    }

    // ---- 6 run: 300 steps

    static void promise06_299Steps() {
        ran(desk(lasting(299)), 0, 0, 299, 12, 0, 1, 294);
    }

    static void promise06_300Steps() {
        ran(desk(lasting(300)), 0, 0, 300, 12, 0, 1, 295);
    }

    static void promise06_301Steps() {
        ran(desk(lasting(301)), 0, 0, 300, 12, 1, 1, 296);
        ran(desk(lasting(302)), 0, 0, 300, 12, 1, 1, 297);
    }

    static void promise06_aLineAfterStep300IsNotDone() {
        ran(desk(lasting(299, SET, 3, 9)), 0, 0, 300, 12, 0, 3, 9);
        ran(desk(lasting(300, SET, 3, 9)), 0, 0, 300, 12, 1, 3, 0);
    }

    static void promise06_step300IsALoop() {
        ran(desk(lasting(299, LOOP, 3, 0, END, 0, 0)), 0, 0, 300, 12, 0);
        ran(desk(lasting(298, SET, 3, 1, LOOP, 3, 0, END, 0, 0)), 0, 0, 300, 12, 1);
    }

    static void promise06_step300IsALess() {
        ran(desk(lasting(299, LESS, 3, 3, SET, 3, 9, END, 0, 0)), 0, 0, 300, 12, 0, 3, 0);
        ran(desk(lasting(299, LESS, 2, 1, SET, 3, 9, END, 0, 0)), 0, 0, 300, 12, 1, 3, 0);
    }

    static void promise06_step300IsAnEnd() {
        ran(desk(lasting(297, LESS, 2, 1, SET, 3, 9, END, 0, 0)), 0, 0, 300, 12, 0, 3, 9);
        ran(desk(lasting(298, LESS, 2, 1, SET, 3, 9, END, 0, 0)), 0, 0, 300, 12, 1, 3, 9);
    }

    static void promise06_spentByASlipAlone() {
        CodeQuiz desk = desk(lasting(300));
        ran(desk, 0, 2, 300, 12, 1);
        ran(desk, 0, 61, 300, 12, 0);
    }

    // ---- 6 run: numbers that wrap

    static void promise06_setToItsBounds() {
        ran(desk(SET, 0, -99, SET, 3, 99), 5, 0, 2, 0, -99, 3, 99);
    }

    static void promise06_addWraps() {
        ran(desk(join(MIN_IN_1, ADD, 1, 1)), 0, 0, 67, 1, 0);
        ran(desk(join(MIN_IN_1, SUB, 1, 2, ADD, 1, 2)), 0, 0, 68, 1, MIN);
        ran(desk(join(MIN_IN_1, SET, 3, -1, ADD, 1, 3)), 0, 0, 68, 1, MAX);
    }

    static void promise06_subWraps() {
        ran(desk(join(MIN_IN_1, SUB, 1, 2)), 0, 0, 67, 1, MAX);
        ran(desk(join(MIN_IN_1, SUB, 3, 1)), 0, 0, 67, 3, MIN);
    }

    static void promise06_subOfTheSlipWraps() {
        ran(desk(join(MIN_IN_1, SUB, 1, 3)), 0, 16, 67, 1, MIN);
        ran(desk(join(MIN_IN_1, SUB, 1, 2)), 0, 16, 67, 1, MIN + 1);
    }

    static void promise06_cellsHoldEveryNumber() {
        ran(desk(join(MIN_IN_1, PUT, 0, 1, GET, 3, 0)), 2, 0, 68, 6, MIN, 3, MIN);
    }

    // ---- 6 run: rows

    /** Variable 1 is the number v, and by it variable 3 is put into row 0 or 1 and got again. */
    private static void place(int[] v, int place) {
        for (int row = 0; row < 2; row++) {
            CodeQuiz put = desk(join(v, SET, 3, 5, PUT, 4 * row + 1, 3));
            put.run(0, 0, 0);
            for (int what = 4; what < 12; what++) {
                due.is("PUT, told " + what, put.told(what), what == 4 + 4 * row + place ? 5 : 0);
            }
            for (int k = 0; k < 4; k++) {
                CodeQuiz get = desk(join(v, SET, 2, k, SET, 3, 5, PUT, 4 * row + 2, 3, GET, 0, 4 * row + 1));
                get.run(0, 0, 0);
                due.is("GET, put at " + k, get.told(0), k == place ? 5 : 0);
                get.run(0, 0, 32);
                due.is("GET by slip 32, put at " + k, get.told(0), k == (place + 1) % 4 ? 5 : 0);
            }
        }
    }

    static void promise06_placesInside() {
        for (int k = 0; k < 4; k++) {
            place(new int[] {SET, 1, k}, k);
        }
    }

    static void promise06_placesPastTheLast() {
        place(new int[] {SET, 1, 4}, 0);
        place(new int[] {SET, 1, 7}, 3);
        place(new int[] {SET, 1, 99}, 3);
    }

    static void promise06_placesBelow0() {
        place(new int[] {SET, 1, -1}, 3);
        place(new int[] {SET, 1, -4}, 0);
        place(new int[] {SET, 1, -5}, 3);
        place(new int[] {SET, 1, -99}, 1);
    }

    static void promise06_placesAtTheEndsOfTheRange() {
        place(MIN_IN_1, 0);
        place(join(MIN_IN_1, SUB, 1, 2), 3);
    }

    static void promise06_rowNameAndPlaceVariable() {
        for (int x = 0; x < 8; x++) {
            for (int y = 0; y < 8; y++) {
                CodeQuiz desk = desk(SET, 1, 1, SET, 2, 2, SET, 3, 3, PUT, x, 3, GET, 0, y);
                ran(desk, 0, 0, 5, 4 + x, 3, 0, x == y ? 3 : 0);
            }
        }
    }

    static void promise06_shareWithItself() {
        ran(desk(PUT, 0, 0, SHARE, 0, 0), 2, 0, 2, 6, 2, 10, 0, 13, 0);
        ran(desk(PUT, 4, 0, SHARE, 1, 1), 2, 0, 2, 6, 0, 10, 2, 13, 0);
    }

    static void promise06_shareBothWays() {
        ran(desk(PUT, 4, 0, SHARE, 0, 1), 2, 0, 2, 6, 2, 10, 2, 13, 1);
        ran(desk(PUT, 4, 0, SHARE, 1, 0), 2, 0, 2, 6, 0, 10, 0, 13, 1);
    }

    static void promise06_shareOfWhatIsShared() {
        ran(desk(SHARE, 0, 1, SHARE, 1, 0, PUT, 0, 0), 2, 0, 3, 6, 2, 10, 2, 13, 1);
        ran(desk(SHARE, 0, 1, SHARE, 0, 0, PUT, 4, 0), 2, 0, 3, 6, 2, 10, 2, 13, 1);
    }

    // ---- 6 run: slips

    static void promise06_slip1ShareWithItself() {
        ran(desk(PUT, 0, 0, SHARE, 0, 0), 2, 1, 2, 6, 2, 10, 0, 13, 0);
        ran(desk(PUT, 4, 0, SHARE, 1, 1), 2, 1, 2, 6, 0, 10, 2, 13, 0);
    }

    static void promise06_slip1TakesEachCell() {
        int[] lines = {SET, 1, 1, SET, 2, 2, SET, 3, 3, PUT, 0, 3, PUT, 1, 3, PUT, 2, 3, PUT, 3, 3};
        for (int machine = 0; machine < 2; machine++) {
            CodeQuiz desk = desk(join(lines, SHARE, 1, 0, PUT, 0, 1));
            ran(desk, 0, machine, 9, 4, 1, 5, 3, 6, 3, 7, 3);
            ran(desk, 0, machine, 9, 8, machine == 0 ? 1 : 3, 9, 3, 10, 3, 11, 3, 13, 1 - machine);
        }
    }

    static void promise06_slip1IsASecondTimeARowOfItsOwn() {
        ran(desk(SHARE, 0, 1, SHARE, 1, 0, PUT, 4, 0, SHARE, 0, 1, PUT, 0, 3), 2, 1, 5, 6, 0, 10, 2, 13, 0);
        ran(desk(SHARE, 0, 1, SHARE, 1, 0, PUT, 4, 0, SHARE, 0, 1, PUT, 4, 3), 2, 1, 5, 6, 2, 10, 0, 13, 0);
    }

    static void promise06_slip2LoopThatIsNotDone() {
        ran(desk(LOOP, 0, 0, SET, 3, 9, END, 0, 0), 0, 2, 1, 3, 0);
        ran(desk(SET, 1, -1, LOOP, 1, 0, SET, 3, 9, END, 0, 0), 0, 2, 2, 3, 0);
    }

    static void promise06_slip2LoopThatIsDone() {
        ran(desk(SET, 1, 1, LOOP, 1, 0, ADD, 3, 1, END, 0, 0), 0, 2, 6, 3, 2);
        ran(desk(SET, 1, 1, LOOP, 0, 0, ADD, 3, 1, END, 0, 0), 9, 2, 22, 3, 10);
    }

    /** By slip 2 the LOOP doubles 31 times, too. */
    static void promise06_slip2LoopAtTheEndsOfTheRange() {
        int[] min = {SET, 1, 1, SET, 2, 30, LOOP, 2, 0, ADD, 1, 1, END, 0, 0, SET, 2, 1};
        ran(desk(join(min, LOOP, 1, 0, SET, 3, 9, END, 0, 0)), 0, 2, 67, 1, MIN, 3, 0, 12, 0);
        ran(desk(join(min, SUB, 1, 2, LOOP, 1, 0, SET, 3, 9, END, 0, 0)), 0, 2, 300, 1, MAX, 3, 9, 12, 1);
    }

    static void promise06_slip4CopyOfItself() {
        ran(desk(COPY, 0, 0), 3, 4, 1, 0, 3);
    }

    static void promise06_slip4CopyTheOtherWay() {
        ran(desk(SET, 3, 5, COPY, 3, 0), 2, 4, 2, 0, 5, 3, 5);
        ran(desk(SET, 3, 5, COPY, 3, 0), 2, 0, 2, 0, 2, 3, 2);
    }

    static void promise06_slip8LessAtTheBound() {
        CodeQuiz desk = desk(SET, 1, 5, LESS, 0, 1, SET, 2, 1, END, 0, 0);
        ran(desk, 4, 8, 4, 2, 1);
        ran(desk, 5, 8, 4, 2, 1);
        ran(desk, 6, 8, 2, 2, 0);
        ran(desk(LESS, 3, 3, SET, 2, 1, END, 0, 0), 6, 8, 3, 2, 1);
    }

    static void promise06_slip8LessOverTheWholeRange() {
        int[] both = join(MIN_IN_1, COPY, 3, 1, SUB, 3, 2);
        ran(desk(join(both, LESS, 1, 3, SET, 0, 7, END, 0, 0)), 0, 8, 71, 0, 7);
        ran(desk(join(both, LESS, 3, 1, SET, 0, 7, END, 0, 0)), 0, 8, 69, 0, 0);
    }

    static void promise06_slip16SubOfItself() {
        ran(desk(SUB, 0, 0), 7, 16, 1, 0, 0);
    }

    static void promise06_slip32IsNotOfPut() {
        ran(desk(PUT, 3, 0), 5, 32, 1, 4, 5, 5, 0);
        ran(desk(SET, 3, 3, PUT, 3, 0), 5, 32, 2, 7, 5, 4, 0);
    }

    static void promise06_eachSlipAloneAndAll() {
        CodeQuiz desk = desk(PARTS_ALL);
        ran(desk, 0, 0, 20, 2, PARTS_ALL_ANSWERS[0]);
        for (int slip = 0; slip < 6; slip++) {
            int steps = slip == 1 || slip == 3 ? 22 : 20;
            ran(desk, 0, 1 << slip, steps, 2, PARTS_ALL_ANSWERS[slip + 1]);
        }
        ran(desk, 0, 63, 24, 2, -96);
    }

    // ---- 7 told

    static void promise07_boundsOfWhat() {
        CodeQuiz desk = desk();
        desk.run(0, 6, 0);
        due.is("the first", desk.told(0), 6);
        due.is("the last", desk.told(13), 0);
        outside("what", desk::told, 0, 13, NO_VALUE);
    }

    static void promise07_boundsBetweenVariablesRowsAndTheRest() {
        CodeQuiz desk = desk(TOLD_AS_ITSELF);
        desk.run(0, 4, 0);
        for (int what = 0; what < 12; what++) {
            due.is("told " + what, desk.told(what), what);
        }
        due.is("spent", desk.told(12), 0);
        due.is("one row", desk.told(13), 0);
    }

    static void promise07_cellsOfTheRowsForWhichTheNamesStand() {
        CodeQuiz desk = desk(join(TOLD_AS_ITSELF, SHARE, 0, 1));
        desk.run(0, 4, 0);
        for (int k = 0; k < 4; k++) {
            due.is("name 0", desk.told(4 + k), 8 + k);
            due.is("name 1", desk.told(8 + k), 8 + k);
        }
        due.is("one row", desk.told(13), 1);
    }

    static void promise07_beforeAny() {
        CodeQuiz desk = desk(SET, 0, 0);
        for (int what = -1; what < 15; what++) {
            due.is("told " + what, desk.told(what), NO_VALUE);
        }
    }

    static void promise07_aRefusedRunIsNone() {
        CodeQuiz desk = desk(LOOP, 0, 0);
        desk.run(0, 0, 0);
        desk.run(0, 10, 0);
        desk.run(0, 0, 64);
        desk.run(1, 0, 0);
        due.is("told", desk.told(0), NO_VALUE);
        due.is("spent", desk.told(12), NO_VALUE);
    }

    static void promise07_runsOfOtherCallsAreNone() {
        due.is("before any", useOthers(richDesk()).told(0), NO_VALUE);
        CodeQuiz desk = richDesk();
        ran(desk, 5, 2, 26, 2, 6);
        useOthers(desk);
        due.is("variable 0", desk.told(0), 0);
        due.is("variable 2", desk.told(2), 6);
    }

    /** All calls, but for run(), in which programs are run. */
    private static CodeQuiz useOthers(CodeQuiz desk) {
        due.is("question", desk.question(0, 7, 1, 2), 1);
        due.is("answer", desk.answer(0, 32), 23);
        due.is("choices", desk.choices(0, 2), 2);
        due.is("choice", desk.choice(0, 0), 3);
        due.is("gap", desk.gap(0, 5), 19);
        due.is("why", desk.why(0, 8), 1 << 8);
        due.is("same", desk.same(0, 0), 10);
        due.is("give", desk.give(0, 0, 4), 1);
        due.is("cost", desk.cost(0, 0), 5);
        due.is("sets", desk.sets(0), 1);
        due.is("set", desk.set(0, 0), 2);
        due.is("next", desk.next(0), 1);
        due.is("parting", desk.parting(), NOTHING);
        return desk;
    }

    static void promise07_aRefusedRunLeavesTheLatest() {
        CodeQuiz desk = desk(SET, 1, 8);
        add(desk, LOOP, 0, 0);
        desk.run(0, 4, 0);
        desk.run(1, 5, 0);
        desk.run(0, 10, 0);
        due.is("variable 0", desk.told(0), 4);
        due.is("variable 1", desk.told(1), 8);
    }

    static void promise07_whenItIsSpent() {
        CodeQuiz desk = desk(join(new int[] {PUT, 7, 0, SHARE, 0, 1, ADD, 3, 0}, lasting(300, SET, 3, 9)));
        desk.run(0, 6, 0);
        due.is("spent", desk.told(12), 1);
        due.is("one row", desk.told(13), 1);
        due.is("variable 3 as it was", desk.told(3), 6);
        due.is("cell of name 0", desk.told(4), 6);
        due.is("cell of name 1", desk.told(8), 6);
        due.is("none other", desk.told(14), NO_VALUE);
    }

    static void promise07_aLineMoreAfterTheRun() {
        CodeQuiz desk = desk(SET, 1, 8);
        desk.run(0, 4, 0);
        desk.line(0, SET, 1, 9);
        due.is("as it was run", desk.told(1), 8);
    }

    static void promise07_aProgramWithoutLines() {
        CodeQuiz desk = desk();
        desk.run(0, 4, 0);
        due.is("variable 0", desk.told(0), 4);
        due.is("spent", desk.told(12), 0);
        due.is("none other", desk.told(14), NO_VALUE);
    }

    static void promise07_refusedChangesNothing() {
        refused("told of no what", desk -> desk.told(14), NO_VALUE);
        refused("told of no what", desk -> desk.told(-1), NO_VALUE);
    }

    // ---- 8 done

    static void promise08_boundsOfLine() {
        CodeQuiz desk = desk(LOOP, 0, 0, SET, 1, 1, END, 0, 0, SET, 2, 1);
        desk.run(0, 5, 0);
        due.is("the first", desk.done(0), 1);
        due.is("the last", desk.done(3), 1);
        outside("line", desk::done, 0, 3, NONE);
        due.is("one that there may be later", desk.done(19), NONE);
        due.is("one that there is never", desk.done(20), NONE);
    }

    static void promise08_twentyLines() {
        CodeQuiz desk = desk();
        for (int i = 0; i < 20; i++) {
            desk.line(0, SET, 1, i);
        }
        desk.run(0, 0, 0);
        due.is("the last", desk.done(19), 1);
        due.is("none more", desk.done(20), NONE);
    }

    static void promise08_beforeAny() {
        CodeQuiz desk = desk(SET, 0, 0);
        due.is("a line", desk.done(0), NONE);
        due.is("no line", desk.done(1), NONE);
    }

    static void promise08_aRefusedRunIsNone() {
        CodeQuiz desk = desk(SET, 0, 0, LOOP, 0, 0);
        desk.run(0, 0, 0);
        desk.run(0, 10, 0);
        due.is("done", desk.done(0), NONE);
    }

    static void promise08_runsOfOtherCallsAreNone() {
        due.is("before any", useOthers(richDesk()).done(0), NONE);
        CodeQuiz desk = richDesk();
        desk.run(0, 5, 2);
        useOthers(desk);
        due.is("the latest by run()", desk.done(2), 6);
    }

    static void promise08_aRefusedRunLeavesTheLatest() {
        CodeQuiz desk = desk(LOOP, 0, 0, SET, 1, 8, END, 0, 0);
        add(desk, LOOP, 0, 0);
        desk.run(0, 4, 0);
        desk.run(1, 5, 0);
        desk.run(0, 5, 64);
        due.is("done", desk.done(1), 4);
        due.is("no such line", desk.done(3), NONE);
    }

    static void promise08_aProgramWithoutLines() {
        CodeQuiz desk = desk();
        desk.run(0, 5, 0);
        due.is("no line", desk.done(0), NONE);
    }

    static void promise08_notDoneAtAll() {
        CodeQuiz desk = desk(LOOP, 1, 0, SET, 1, 8, END, 0, 0, LESS, 0, 1, SET, 1, 8, END, 0, 0);
        desk.run(0, 4, 0);
        int[] want = {1, 0, 0, 1, 0, 0};
        for (int line = 0; line < want.length; line++) {
            due.is("line " + line, desk.done(line), want[line]);
        }
    }

    static void promise08_eachTimeItComesThere() {
        CodeQuiz desk = desk(LOOP, 0, 0, LOOP, 0, 0, LESS, 1, 0, SET, 1, 9, END, 0, 0, END, 0, 0, END, 0, 0);
        desk.run(0, 4, 0);
        int[] want = {1, 4, 16, 1, 1, 16, 4};
        for (int line = 0; line < want.length; line++) {
            due.is("line " + line, desk.done(line), want[line]);
        }
    }

    static void promise08_whenItIsSpent() {
        CodeQuiz desk = desk(lasting(301, SET, 3, 9));
        desk.run(0, 0, 0);
        due.is("LOOP", desk.done(4), 1);
        due.is("END", desk.done(5), 295);
        due.is("not come to", desk.done(6), 0);
        due.is("no such line", desk.done(7), NONE);
    }

    static void promise08_theLatestProgramIsShorter() {
        CodeQuiz desk = desk(SET, 0, 0, SET, 0, 0);
        add(desk, SET, 0, 0);
        desk.run(0, 0, 0);
        due.is("of the longer one", desk.done(1), 1);
        desk.run(1, 0, 0);
        due.is("of the shorter one", desk.done(0), 1);
        due.is("of the shorter one", desk.done(1), NONE);
    }

    static void promise08_aLineMoreAfterTheRun() {
        CodeQuiz desk = desk(SET, 1, 8);
        desk.run(0, 4, 0);
        desk.line(0, SET, 1, 9);
        due.is("the run did not have it", desk.done(1), NONE);
        due.is("the one that it had", desk.done(0), 1);
    }

    static void promise08_refusedChangesNothing() {
        refused("done of no line", desk -> desk.done(4), NONE);
        refused("done of no line", desk -> desk.done(-1), NONE);
    }
}
