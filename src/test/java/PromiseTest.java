/** The promises of the document, one after the other: what they do in ordinary use; their edges are in *EdgesTest. */
public final class PromiseTest extends Desks {
    public static void main(String[] args) {
        constants();
        newObject();
        program();
        lineState();
        about();
        whole();
        runSteps();
        runSpent();
        runOps();
        runSlips();
        runRefused();
        told();
        toldIsOfTheLatestRun();
        done();
        question();
        questionRefused();
        answer();
        answerOfSpentRuns();
        choices();
        choicesUnlike();
        choice();
        gap();
        gapLooksAtCells();
        gapSpent();
        gapRefused();
        filling();
        why();
        same();
        give();
        price();
        cost();
        sets();
        set();
        next();
        parting();
        partingFewest();
        partingFirstTwelve();
        count();
        due.end();
    }

    private static void constants() {
        due.part("constants");
        due.is("NONE", CodeQuiz.NONE, NONE);
        due.is("FULL", CodeQuiz.FULL, FULL);
        due.is("STATE", CodeQuiz.STATE, STATE);
        due.is("NO_VALUE", CodeQuiz.NO_VALUE, NO_VALUE);
    }

    private static void newObject() {
        due.part("1 a new object");
        CodeQuiz desk = new CodeQuiz();
        for (int what = 0; what < 3; what++) {
            due.is("count", desk.count(what), 0);
        }
        due.is("whole", desk.whole(0), NONE);
        due.is("answer", desk.answer(0, 0), NO_VALUE);
        due.is("about", desk.about(0, 0, 0), NO_VALUE);
        due.is("told", desk.told(0), NO_VALUE);
        due.is("choice", desk.choice(0, 0), NO_VALUE);
        due.is("filling", desk.filling(0), NO_VALUE);
        CodeQuiz other = new CodeQuiz();
        desk.program();
        due.is("another desk has its own programs", other.count(0), 0);
    }

    private static void program() {
        due.part("2 program");
        CodeQuiz desk = new CodeQuiz();
        for (int p = 0; p < 10; p++) {
            due.is("program", desk.program(), p);
        }
        due.is("program 11", desk.program(), FULL);
        due.is("count", desk.count(0), 10);
        due.is("whole of the last", desk.whole(9), 1);
        due.is("no program 10", desk.whole(10), NONE);
        due.is("no line in a new program", desk.about(9, 0, 0), NO_VALUE);
    }

    private static void lineState() {
        due.part("3 line, refused");
        CodeQuiz desk = desk(LOOP, 0, 0, LESS, 0, 1, END, 0, 0, END, 0, 0);
        due.is("an END, nothing open", desk.line(0, END, 0, 0), STATE);
        due.is("an END that is not as said is NONE first", desk.line(0, END, 0, 1), NONE);
        for (int i = 4; i < 20; i++) {
            due.is("line", desk.line(0, SET, 0, i), i);
        }
        due.is("line 20", desk.line(0, SET, 0, 0), FULL);
        due.is("NONE ahead of FULL", desk.line(0, SET, 0, 100), NONE);
        due.is("STATE ahead of FULL", desk.line(0, END, 0, 0), STATE);
        due.is("refused lines are not counted", desk.count(2), 20);
        due.is("question", desk.question(0, 0, 0, 0), 0);
        due.is("a question is of it", desk.line(0, SET, 0, 0), STATE);
        due.is("NONE ahead of STATE", desk.line(0, 10, 0, 0), NONE);
        int p = add(desk, SET, 0, 1);
        due.is("another program takes lines", desk.line(p, SET, 0, 0), 1);
        due.is("question of it", desk.question(p, 0, 0, 0), 1);
        due.is("a question is of it, not FULL", desk.line(p, SET, 0, 0), STATE);

        CodeQuiz open = new CodeQuiz();
        open.program();
        for (int i = 0; i < 20; i++) {
            due.is("LOOP in LOOP", open.line(0, LOOP, 0, 0), i);
        }
        due.is("an END to a full program", open.line(0, END, 0, 0), FULL);
        due.is("never whole", open.whole(0), 0);
    }

    private static void about() {
        due.part("4 about");
        CodeQuiz desk = desk(SET, 3, -99, LOOP, 2, 0, LESS, 1, 3, GET, 2, 7, END, 0, 0, END, 0, 0, PUT, 6, 1);
        int[][] want = {{SET, 3, -99, 0}, {LOOP, 2, 0, 0}, {LESS, 1, 3, 1}, {GET, 2, 7, 2}, {END, 0, 0, 2},
            {END, 0, 0, 1}, {PUT, 6, 1, 0}};
        for (int line = 0; line < want.length; line++) {
            for (int what = 0; what < 4; what++) {
                due.is("about(0, " + line + ", " + what + ")", desk.about(0, line, what), want[line][what]);
            }
        }
        due.is("no such what", desk.about(0, 0, 4), NO_VALUE);
        due.is("no such line", desk.about(0, 7, 0), NO_VALUE);
        due.is("no such line", desk.about(0, 20, 0), NO_VALUE);
        due.is("no such program", desk.about(1, 0, 0), NO_VALUE);
        due.is("no such program", desk.about(10, 0, 0), NO_VALUE);
        for (int odd : ODD) {
            due.is("odd what", desk.about(0, 0, odd), NO_VALUE);
            due.is("odd line", desk.about(0, odd, 0), NO_VALUE);
            due.is("odd program", desk.about(odd, 0, 0), NO_VALUE);
        }
    }

    private static void whole() {
        due.part("5 whole");
        CodeQuiz desk = desk();
        due.is("without lines", desk.whole(0), 1);
        int[] ops = {SET, LOOP, LESS, END, LESS, END, END, LOOP};
        int[] want = {1, 0, 0, 0, 0, 0, 1, 0};
        for (int i = 0; i < ops.length; i++) {
            desk.line(0, ops[i], 0, 0);
            due.is("after line " + i, desk.whole(0), want[i]);
        }
        due.is("no program", desk.whole(1), NONE);
        for (int odd : ODD) {
            due.is("no program", desk.whole(odd), NONE);
        }
    }

    private static void runSteps() {
        due.part("6 run, steps");
        ran(desk(), 9, 0, 0, 0, 9, 12, 0);
        // LOOP once, its lines and END each time.
        CodeQuiz desk = desk(LOOP, 0, 0, ADD, 1, 0, END, 0, 0);
        ran(desk, 0, 0, 1, 1, 0);
        ran(desk, 4, 0, 9, 1, 16);
        // A LOOP of a variable below 0.
        ran(desk(SET, 0, -1, LOOP, 0, 0, END, 0, 0), 5, 0, 2);
        // The count is the LOOP's own: the variable may change.
        ran(desk(LOOP, 0, 0, SET, 0, 0, ADD, 1, 2, END, 0, 0), 3, 0, 10, 0, 0);
        ran(desk(SET, 1, 1, LOOP, 0, 0, ADD, 0, 1, END, 0, 0), 3, 0, 8, 0, 6);
        // A LESS that holds is left by its END, one that does not is passed with its END.
        desk = desk(SET, 1, 5, LESS, 0, 1, SET, 2, 7, END, 0, 0, SET, 3, 8);
        ran(desk, 4, 0, 5, 2, 7, 3, 8);
        ran(desk, 5, 0, 3, 2, 0, 3, 8);
        // A LESS in a LOOP, and an END is of the innermost.
        desk = desk(SET, 1, 1, LOOP, 0, 0, LESS, 2, 0, ADD, 2, 1, END, 0, 0, ADD, 3, 1, END, 0, 0);
        ran(desk, 3, 0, 17, 2, 3, 3, 3);
        // A LOOP in a LOOP counts anew each time.
        ran(desk(SET, 1, 2, SET, 3, 1, LOOP, 0, 0, LOOP, 1, 0, ADD, 2, 3, END, 0, 0, END, 0, 0), 3, 0, 21, 2, 6);
    }

    private static void runSpent() {
        due.part("6 run, spent");
        ran(desk(SET, 1, 99, SET, 2, 50, ADD, 1, 2, LOOP, 1, 0, END, 0, 0), 0, 0, 4 + 149, 12, 0);
        // 299 steps, then lines more that make it 300, 301, 302.
        CodeQuiz desk = desk(SET, 1, 74, ADD, 1, 1, LOOP, 1, 0, ADD, 3, 1, END, 0, 0);
        ran(desk, 0, 0, 3 + 148 * 2, 12, 0);
        due.is("line", desk.line(0, SET, 2, 1), 5);
        ran(desk, 0, 0, 300, 12, 0, 2, 1);
        due.is("line", desk.line(0, SET, 2, 2), 6);
        ran(desk, 0, 0, 300, 12, 1, 2, 1);
        due.is("not come to", desk.done(6), 0);
        due.is("line", desk.line(0, SET, 2, 3), 7);
        ran(desk, 0, 0, 300, 12, 1, 2, 1);
        // A LOOP at the end: its last END is step 300, or 301.
        ran(desk(SET, 1, 99, SET, 2, 99, ADD, 1, 2, ADD, 1, 2, SET, 2, 2, SUB, 1, 2, LOOP, 1, 0, END, 0, 0),
                0, 0, 300, 12, 1);
        ran(desk(SET, 1, 99, SET, 2, 99, ADD, 1, 2, ADD, 1, 2, SET, 2, 4, SUB, 1, 2, LOOP, 1, 0, END, 0, 0),
                0, 0, 300, 12, 0);
    }

    private static void runOps() {
        due.part("6 run, ops");
        ran(desk(SET, 3, -99), 6, 0, 1, 0, 6, 1, 0, 2, 0, 3, -99);
        ran(desk(COPY, 2, 0), 6, 0, 1, 0, 6, 2, 6);
        ran(desk(SET, 1, -4, ADD, 0, 1), 6, 0, 2, 0, 2, 1, -4);
        ran(desk(SET, 1, -4, SUB, 0, 1), 6, 0, 2, 0, 10, 1, -4);
        ran(desk(ADD, 0, 0), 6, 0, 1, 0, 12);
        ran(desk(SUB, 0, 0), 6, 0, 1, 0, 0);
        // Ints wrap: 2 to the 31st is below 0.
        CodeQuiz wraps = desk(SET, 1, 1, SET, 2, 31, LOOP, 2, 0, ADD, 1, 1, END, 0, 0, LESS, 1, 0, SET, 3, 1, END, 0, 0);
        ran(wraps, 0, 0, 68, 1, Integer.MIN_VALUE, 3, 1);
        // PUT and GET: row by x / 4, place by the variable x % 4.
        ran(desk(SET, 1, 7, PUT, 0, 1, PUT, 5, 0), 6, 0, 3, 6, 7, 11, 6, 4, 0, 5, 0, 7, 0, 8, 0, 9, 0, 10, 0);
        ran(desk(SET, 1, -1, PUT, 1, 0, GET, 2, 1), 6, 0, 3, 7, 6, 2, 6);
        ran(desk(SET, 1, 9, PUT, 4, 1, GET, 2, 4, GET, 3, 0), 6, 0, 4, 10, 9, 2, 9, 3, 0);
        // SHARE: one row by two names, later and earlier cells.
        CodeQuiz shares = desk(PUT, 0, 0, SHARE, 1, 0, SET, 1, 5, PUT, 5, 1, SET, 2, 1, GET, 3, 2);
        ran(shares, 2, 0, 6, 6, 2, 10, 2, 5, 5, 9, 5, 3, 5, 13, 1);
        ran(desk(PUT, 4, 0, SHARE, 0, 1), 2, 0, 2, 6, 2, 10, 2, 13, 1);
        ran(desk(PUT, 4, 0, SHARE, 1, 0), 2, 0, 2, 6, 0, 10, 0, 13, 1);
        ran(desk(PUT, 4, 0, SHARE, 1, 1, SHARE, 0, 0), 2, 0, 3, 6, 0, 10, 2, 13, 0);
        ran(desk(PUT, 0, 0, SHARE, 1, 0, SHARE, 0, 1), 2, 0, 3, 6, 2, 10, 2, 13, 1);
    }

    private static void runSlips() {
        due.part("6 run, slips");
        // 1: a row of its own, with the same cells.
        ran(desk(PUT, 0, 0, SHARE, 1, 0, SET, 1, 1, PUT, 1, 0), 2, 1, 4, 6, 2, 10, 2, 5, 2, 9, 0, 13, 0);
        ran(desk(PUT, 0, 0, SHARE, 0, 1), 2, 1, 2, 6, 0, 10, 0, 13, 0);
        ran(desk(SET, 1, 8, PUT, 1, 0, SHARE, 1, 0), 3, 1, 3, 4, 3, 8, 3, 13, 0);
        ran(desk(PUT, 0, 0, SHARE, 0, 0), 2, 1, 2, 6, 2, 10, 0, 13, 0);
        // 2: once more, if at all; nested ones, too.
        CodeQuiz loop = desk(SET, 1, 1, LOOP, 0, 0, ADD, 2, 1, END, 0, 0);
        ran(loop, 0, 2, 2, 2, 0);
        ran(loop, 1, 2, 6, 2, 2);
        ran(loop, 9, 2, 22, 2, 10);
        ran(desk(SET, 0, -3, SET, 1, 1, LOOP, 0, 0, ADD, 2, 1, END, 0, 0), 1, 2, 3, 2, 0);
        ran(desk(SET, 1, 1, LOOP, 0, 0, LOOP, 0, 0, ADD, 2, 1, END, 0, 0, END, 0, 0), 2, 2, 2 + 3 * (1 + 6 + 1), 2, 9);
        // 4: the other way.
        ran(desk(SET, 1, 5, COPY, 1, 0), 3, 4, 2, 0, 5, 1, 5);
        ran(desk(COPY, 0, 0), 3, 4, 1, 0, 3);
        // 8: if they are alike, too.
        CodeQuiz less = desk(SET, 1, 5, LESS, 0, 1, SET, 2, 1, END, 0, 0);
        ran(less, 4, 8, 4, 2, 1);
        ran(less, 5, 8, 4, 2, 1);
        ran(less, 6, 8, 2, 2, 0);
        // 16: y - x.
        ran(desk(SET, 1, 5, SUB, 0, 1), 3, 16, 2, 0, 2, 1, 5);
        // 32: one place further in GET, not in PUT.
        ran(desk(PUT, 0, 0, GET, 1, 0), 2, 32, 2, 6, 2, 1, 0);
        ran(desk(SET, 1, 3, PUT, 5, 0, SET, 1, 2, GET, 2, 5), 8, 32, 4, 11, 8, 2, 8);
        ran(desk(SET, 1, 0, PUT, 1, 0, SET, 1, 3, GET, 2, 1), 8, 32, 4, 4, 8, 2, 8);
        // Several at once, and slips that are not in the mask.
        CodeQuiz both = desk(SET, 1, 5, COPY, 2, 1, SUB, 0, 1);
        ran(both, 3, 20, 3, 0, -3, 1, 0, 2, 0);
        ran(both, 3, 63 - 20, 3, 0, -2, 1, 5, 2, 5);
        // Once more than the greatest int is still often, not never.
        CodeQuiz most = desk(SET, 1, 1, SET, 2, 31, LOOP, 2, 0, ADD, 1, 1, END, 0, 0, SET, 2, 1, SUB, 1, 2,
                LOOP, 1, 0, SET, 3, 9, END, 0, 0);
        ran(most, 0, 0, 300, 1, Integer.MAX_VALUE, 3, 9, 12, 1);
        CodeQuiz mostWithSlip = desk(SET, 1, 1, SET, 2, 30, LOOP, 2, 0, ADD, 1, 1, END, 0, 0, SET, 2, 1, SUB, 1, 2,
                LOOP, 1, 0, SET, 3, 9, END, 0, 0);
        ran(mostWithSlip, 0, 2, 300, 1, Integer.MAX_VALUE, 3, 9, 12, 1);
    }

    private static void runRefused() {
        due.part("6 run, refused");
        CodeQuiz desk = desk(SET, 1, 4);
        due.is("no program", desk.run(1, 0, 0), NONE);
        due.is("input", desk.run(0, 10, 0), NONE);
        due.is("machine", desk.run(0, 0, 64), NONE);
        for (int odd : ODD) {
            due.is("program", desk.run(odd, 0, 0), NONE);
            due.is("input", desk.run(0, odd, 0), NONE);
            due.is("machine", desk.run(0, 0, odd), NONE);
        }
        due.is("no run has been", desk.told(0), NO_VALUE);
        due.is("run", desk.run(0, 9, 63), 1);
        desk.line(0, LESS, 0, 0);
        due.is("not whole", desk.run(0, 0, 0), STATE);
        due.is("NONE ahead of STATE", desk.run(0, 10, 0), NONE);
        due.is("refused runs are not told of", desk.told(0), 9);
        due.is("refused runs are not told of", desk.done(0), 1);
    }

    private static void told() {
        due.part("7 told");
        CodeQuiz desk = desk(SET, 1, 11, SET, 2, 12, SET, 3, 13, PUT, 0, 1, PUT, 5, 2);
        due.is("before any", desk.told(0), NO_VALUE);
        due.is("before any", desk.told(12), NO_VALUE);
        desk.run(0, 2, 0);
        int[] want = {2, 11, 12, 13, 0, 0, 11, 0, 0, 0, 0, 12, 0, 0};
        for (int what = 0; what < want.length; what++) {
            due.is("told(" + what + ")", desk.told(what), want[what]);
        }
        due.is("told(14)", desk.told(14), NO_VALUE);
        for (int odd : ODD) {
            due.is("told", desk.told(odd), NO_VALUE);
        }
    }

    private static void toldIsOfTheLatestRun() {
        due.part("7 told, the latest run by run()");
        CodeQuiz desk = desk(SET, 1, 11, LOOP, 0, 0, ADD, 2, 1, END, 0, 0);
        add(desk, SET, 1, 3);
        desk.run(0, 2, 0);
        desk.run(0, 3, 0);
        due.is("the later one", desk.told(2), 33);
        int shares = add(desk, SHARE, 0, 1, PUT, 0, 0);
        desk.run(shares, 2, 0);
        due.is("one row", desk.told(13), 1);
        desk.run(0, 3, 0);
        due.is("each name has its own row again", desk.told(13), 0);
        due.is("cells are 0 again", desk.told(6), 0);
        due.is("cells are 0 again", desk.told(10), 0);
        desk.question(0, 5, 0, 2);
        desk.answer(0, 2);
        desk.choices(0, 2);
        desk.gap(0, 0);
        desk.why(0, 11);
        desk.same(0, 1);
        desk.give(0, 0, 1);
        desk.sets(0);
        desk.next(1);
        desk.parting();
        due.is("no other call runs", desk.told(2), 33);
        due.is("no other call runs", desk.told(0), 3);
        due.is("no other call runs", desk.done(2), 3);
    }

    private static void done() {
        due.part("8 done");
        CodeQuiz desk = desk(LOOP, 0, 0, LESS, 1, 0, SET, 1, 99, END, 0, 0, END, 0, 0, SET, 2, 0);
        due.is("before any", desk.done(0), NONE);
        desk.run(0, 4, 0);
        int[] want = {1, 4, 1, 1, 4, 1};
        for (int line = 0; line < want.length; line++) {
            due.is("done(" + line + ")", desk.done(line), want[line]);
        }
        due.is("no such line", desk.done(6), NONE);
        due.is("no such line", desk.done(20), NONE);
        for (int odd : ODD) {
            due.is("no such line", desk.done(odd), NONE);
        }
        add(desk, SET, 0, 0);
        due.is("another program's lines", desk.done(5), 1);
        desk.run(1, 0, 0);
        due.is("the later run", desk.done(0), 1);
        due.is("the later run's program is shorter", desk.done(1), NONE);
        desk.line(1, SET, 0, 1);
        due.is("a line that the run did not have", desk.done(1), NONE);
    }

    private static void question() {
        due.part("9 question");
        CodeQuiz desk = desk(SET, 1, 11);
        due.is("value", desk.question(0, 0, 0, 0), 0);
        due.is("value", desk.question(0, 9, 0, 3), 1);
        due.is("line", desk.question(0, 9, 1, 0), 2);
        due.is("cell", desk.question(0, 9, 2, 0), 3);
        due.is("cell", desk.question(0, 9, 2, 7), 4);
        for (int q = 5; q < 60; q++) {
            due.is("the same again", desk.question(0, 9, 2, 7), q);
        }
        due.is("question 61", desk.question(0, 9, 2, 7), FULL);
        due.is("NONE ahead of FULL", desk.question(0, 9, 2, 8), NONE);
        int p = add(desk, LOOP, 0, 0);
        due.is("STATE ahead of FULL", desk.question(p, 9, 0, 0), STATE);
        due.is("count", desk.count(1), 60);
        p = add(desk, SET, 0, 0);
        due.is("FULL", desk.question(p, 0, 0, 0), FULL);
        due.is("a refused question is of no program", desk.line(p, SET, 0, 0), 1);
    }

    private static void questionRefused() {
        due.part("9 question, refused");
        CodeQuiz desk = desk(LOOP, 0, 0, LOOP, 0, 0, LOOP, 0, 0, END, 0, 0, END, 0, 0, END, 0, 0);
        due.is("program", desk.question(1, 0, 0, 0), NONE);
        due.is("input", desk.question(0, 10, 0, 0), NONE);
        due.is("kind", desk.question(0, 0, 3, 0), NONE);
        due.is("variable", desk.question(0, 0, 0, 4), NONE);
        due.is("line", desk.question(0, 0, 1, 6), NONE);
        due.is("cell", desk.question(0, 0, 2, 8), NONE);
        for (int odd : ODD) {
            due.is("program", desk.question(odd, 0, 0, 0), NONE);
            due.is("input", desk.question(0, odd, 0, 0), NONE);
            due.is("kind", desk.question(0, 0, odd, 0), NONE);
            for (int kind = 0; kind < 3; kind++) {
                due.is("what", desk.question(0, 0, kind, odd), NONE);
            }
        }
        due.is("spent", desk.question(0, 9, 0, 0), STATE);
        due.is("NONE ahead of spent", desk.question(0, 9, 0, 4), NONE);
        due.is("refused questions leave the program open", desk.line(0, LESS, 0, 0), 6);
        due.is("not whole", desk.question(0, 0, 0, 0), STATE);
        due.is("NONE ahead of not whole", desk.question(0, 10, 0, 0), NONE);
        due.is("END", desk.line(0, END, 0, 0), 7);
        due.is("not spent by a lesser input", desk.question(0, 3, 1, 7), 0);
    }

    private static void answer() {
        due.part("10 answer");
        CodeQuiz desk = desk(SET, 1, 1, LOOP, 0, 0, ADD, 2, 1, END, 0, 0, SHARE, 1, 0, PUT, 4, 2);
        desk.question(0, 3, 0, 2);
        desk.question(0, 3, 1, 2);
        desk.question(0, 3, 2, 3);
        desk.question(0, 3, 2, 7);
        int[][] want = {{3, 4, 3, 4}, {3, 4, 3, 4}, {3, 4, 0, 0}, {3, 4, 3, 4}};
        for (int q = 0; q < 4; q++) {
            for (int machine = 0; machine < 4; machine++) {
                int at = machine == 1 ? 2 : machine == 2 ? 1 : machine;
                due.is("answer(" + q + ", " + machine + ")", desk.answer(q, machine), want[q][at]);
                due.is("asked again", desk.answer(q, machine), want[q][at]);
            }
            due.is("machine 63", desk.answer(q, 63), want[q][3]);
            due.is("machine 60", desk.answer(q, 60), want[q][0]);
        }
        due.is("no question", desk.answer(4, 0), NO_VALUE);
        due.is("no question", desk.answer(60, 0), NO_VALUE);
        due.is("no machine", desk.answer(0, 64), NO_VALUE);
        for (int odd : ODD) {
            due.is("no question", desk.answer(odd, 0), NO_VALUE);
            due.is("no machine", desk.answer(0, odd), NO_VALUE);
        }
    }

    private static void answerOfSpentRuns() {
        due.part("10 answer, spent");
        CodeQuiz desk = desk(LOOP, 0, 0, LOOP, 0, 0, SET, 1, 1, ADD, 2, 1, END, 0, 0, END, 0, 0);
        desk.question(0, 9, 0, 2);
        desk.question(0, 9, 1, 2);
        due.is("true", desk.answer(0, 0), 81);
        due.is("as it is when it is spent", desk.answer(0, 2), 93);
        due.is("as it is when it is spent", desk.answer(1, 2), 94);
    }

    private static void choices() {
        due.part("11 choices");
        CodeQuiz desk = richDesk();
        int[] values = {3, 4, 52, 77, -1, 23};
        int[] slips = {0, 2, 4, 8, 16, 32};
        for (int n = 2; n <= 6; n++) {
            due.is("choices(0, " + n + ")", desk.choices(0, n), n);
            for (int i = 0; i < n; i++) {
                due.is("value of " + i, desk.choice(i, 0), values[i]);
                due.is("slip of " + i, desk.choice(i, 1), slips[i]);
            }
            due.is("no more than n", desk.choice(n, 0), NO_VALUE);
        }
        due.is("n", desk.choices(0, 1), NONE);
        due.is("n", desk.choices(0, 0), NONE);
        due.is("n", desk.choices(0, 7), NONE);
        due.is("no question", desk.choices(1, 2), NONE);
        for (int odd : ODD) {
            due.is("n", desk.choices(0, odd), NONE);
            due.is("no question", desk.choices(odd, 2), NONE);
        }
    }

    private static void choicesUnlike() {
        due.part("11 choices, unlike");
        // By slips 2 and 4 the same answer: the lesser bit gives it; by 8 the right one; too few for 4.
        CodeQuiz desk = desk(SET, 1, 1, LOOP, 1, 0, ADD, 2, 1, END, 0, 0, SET, 3, 2, COPY, 1, 2, SUB, 3, 0);
        desk.question(0, 5, 0, 2);
        due.is("two", desk.choices(0, 2), 2);
        due.is("right", desk.choice(0, 0), 1);
        due.is("wrong", desk.choice(1, 0), 2);
        due.is("by", desk.choice(1, 1), 2);
        due.is("too few", desk.choices(0, 3), STATE);
        CodeQuiz alike = desk(SET, 1, 1, SET, 2, 2, COPY, 2, 1, LOOP, 1, 0, ADD, 3, 1, END, 0, 0);
        alike.question(0, 0, 0, 3);
        due.is("slips 2 and 4", alike.answer(0, 2), 2);
        due.is("slips 2 and 4", alike.answer(0, 4), 4);
        due.is("three", alike.choices(0, 3), 3);
        CodeQuiz twice = desk(SET, 1, 1, SET, 2, 2, LOOP, 1, 0, SET, 3, 7, END, 0, 0, SET, 3, 0, SUB, 3, 1);
        twice.question(0, 0, 0, 3);
        due.is("only by 16", twice.choices(0, 2), 2);
        due.is("only by 16", twice.choice(1, 1), 16);
        due.is("only by 16", twice.choice(1, 0), 1);
        // COPY and SUB slips give 5 both.
        CodeQuiz both = desk(SET, 2, 5, COPY, 3, 2, SUB, 3, 2, ADD, 3, 0);
        both.question(0, 5, 0, 3);
        due.is("right", both.answer(0, 0), 5);
        due.is("too few", both.choices(0, 2), STATE);
        CodeQuiz lesser = desk(SET, 1, 4, SET, 2, 2, SUB, 1, 2, COPY, 3, 2, COPY, 0, 1);
        lesser.question(0, 9, 0, 0);
        due.is("by 4", lesser.answer(0, 4), 9);
        due.is("by 16", lesser.answer(0, 16), -2);
        due.is("three", lesser.choices(0, 3), 3);
        due.is("the lesser bit first", lesser.choice(1, 1), 4);
        due.is("the greater bit then", lesser.choice(2, 1), 16);
        CodeQuiz equal = desk(SET, 1, 4, SUB, 1, 0, COPY, 3, 1);
        equal.question(0, 4, 0, 3);
        due.is("all give 0", equal.choices(0, 2), STATE);
        CodeQuiz tie = desk(SET, 1, 2, SUB, 1, 0, SET, 0, -1, COPY, 0, 1);
        tie.question(0, 1, 0, 0);
        due.is("by 4", tie.answer(0, 4), -1);
        due.is("by 16", tie.answer(0, 16), -1);
        due.is("two", tie.choices(0, 2), 2);
        due.is("the lesser bit gives it", tie.choice(1, 1), 4);
        due.is("too few", tie.choices(0, 3), STATE);
    }

    private static void choice() {
        due.part("12 choice");
        CodeQuiz desk = richDesk();
        due.is("before any", desk.choice(0, 0), NO_VALUE);
        due.is("before any", desk.choice(0, 1), NO_VALUE);
        int p = add(desk, SET, 1, 9);
        due.is("question", desk.question(p, 0, 0, 1), 1);
        due.is("choices", desk.choices(0, 3), 3);
        due.is("too few", desk.choices(1, 2), STATE);
        due.is("refused", desk.choices(1, 9), NONE);
        due.is("the latest that was not refused", desk.choice(0, 0), 3);
        due.is("the latest that was not refused", desk.choice(2, 0), 52);
        due.is("the latest that was not refused", desk.choice(2, 1), 4);
        due.is("right answer, no slip", desk.choice(0, 1), 0);
        due.is("only three", desk.choice(3, 0), NO_VALUE);
        due.is("what", desk.choice(0, 2), NO_VALUE);
        for (int odd : ODD) {
            due.is("what", desk.choice(0, odd), NO_VALUE);
            due.is("i", desk.choice(odd, 0), NO_VALUE);
        }
        due.is("question", desk.question(0, 2, 0, 2), 2);
        due.is("another question's", desk.choices(2, 2), 2);
        due.is("another question's", desk.choice(0, 0), 2);
        due.is("another question's", desk.choice(2, 0), NO_VALUE);
    }

    private static void gap() {
        due.part("13 gap");
        // Below, at and above what all inputs are: any number from 9 on would do, and 9 is not less than 9.
        CodeQuiz desk = desk(SET, 1, 50, LESS, 0, 1, SET, 2, 3, END, 0, 0, SET, 1, 0);
        due.is("none of -9 .. 9 is above 9", desk.gap(0, 0), 0);
        due.is("a number that counts", desk.gap(0, 2), 1);
        due.is("its own", desk.filling(0), 3);
        due.is("the last one", desk.gap(0, 4), 1);
        desk = desk(SET, 1, -50, LESS, 0, 1, SET, 2, 3, END, 0, 0, SET, 1, 0);
        due.is("-9 .. 0", desk.gap(0, 0), 10);
        due.is("from", desk.filling(0), -9);
        due.is("to", desk.filling(9), 0);
        due.is("never come to", desk.gap(0, 2), 19);
        due.is("its own stays", desk.about(0, 2, 2), 3);
        due.is("its own stays", desk.about(0, 0, 2), -50);
        // Its own counts, at both ends.
        for (int own : new int[] {-10, -9, 9, 10}) {
            CodeQuiz ends = desk(SET, 3, own);
            due.is("own " + own, ends.gap(0, 0), own == -9 || own == 9 ? 1 : 0);
            due.is("own " + own, ends.filling(0), own == -9 || own == 9 ? own : NO_VALUE);
        }
        // Only one of the ten inputs tells.
        CodeQuiz last = desk(SET, 1, 8, LESS, 1, 0, SET, 2, 3, END, 0, 0, SET, 1, 0);
        due.is("only 9 comes there", last.gap(0, 2), 1);
        due.is("a question does not hinder", last.question(0, 0, 0, 0), 0);
        due.is("only 8 parts 8 from 9", last.gap(0, 0), 1);
        // No input is above 9: only 10 would part 9 from 8.
        CodeQuiz past = desk(SET, 1, 9, LESS, 1, 0, SET, 2, 3, END, 0, 0, SET, 1, 0);
        due.is("no input 10", past.gap(0, 2), 19);
        due.is("not less than 9", past.gap(0, 0), 1);
        // Slips do not matter, and the true machine's runs only.
        CodeQuiz overwritten = desk(SET, 1, 4, SET, 2, 1, COPY, 1, 2);
        due.is("overwritten", overwritten.gap(0, 0), 19);
    }

    private static void gapLooksAtCells() {
        due.part("13 gap, cells");
        CodeQuiz desk = desk(SET, 1, 5, PUT, 0, 1, SET, 1, 0);
        due.is("row 0", desk.gap(0, 0), 1);
        CodeQuiz firstCell = desk(SET, 2, 4, SET, 1, 5, PUT, 2, 1, SET, 1, 0);
        due.is("cell 0", firstCell.gap(0, 1), 1);
        due.is("cell 0 by place", firstCell.gap(0, 0), 1);
        due.is("row 1", desk(SET, 1, 5, PUT, 4, 1, SET, 1, 0).gap(0, 0), 1);
        // The place counts by its lowest bits: 5 is as -7, -3, 1, 9.
        CodeQuiz place = desk(SET, 1, 5, PUT, 5, 0, SET, 1, 0);
        due.is("places", place.gap(0, 0), 5);
        int[] want = {-7, -3, 1, 5, 9};
        for (int i = 0; i < want.length; i++) {
            due.is("place " + i, place.filling(i), want[i]);
        }
        // A row without a name is not seen any more; how the names share is not asked.
        due.is("lost row", desk(SET, 1, 5, PUT, 4, 1, SET, 1, 0, SHARE, 1, 0).gap(0, 0), 19);
        CodeQuiz shares = desk(SET, 1, 5, LESS, 0, 1, SHARE, 1, 0, END, 0, 0, SET, 1, 0);
        due.is("sharing alone", shares.gap(0, 0), 19);
        CodeQuiz seen = desk(PUT, 0, 0, SET, 1, 5, LESS, 0, 1, SHARE, 1, 0, END, 0, 0, SET, 1, 0);
        due.is("sharing seen by cells", seen.gap(0, 1), 1);
    }

    private static void gapSpent() {
        due.part("13 gap, spent");
        int[] lines = {SET, 1, 9, LOOP, 1, 0, LOOP, 1, 0, LOOP, 1, 0, END, 0, 0, END, 0, 0, END, 0, 0, SET, 1, 0};
        CodeQuiz desk = desk(lines);
        // n: 2 + n * (2 + n * (2 + n)) steps and the last SET: 5: 187, 6: 302.
        due.is("spent both ways", desk.gap(0, 0), 4);
        due.is("the least", desk.filling(0), 6);
        due.is("the greatest", desk.filling(3), 9);
        lines[2] = 5;
        due.is("not spent", desk(lines).gap(0, 0), 15);
        due.is("the greatest", desk(lines).filling(14), NO_VALUE);
        CodeQuiz five = desk(lines);
        five.gap(0, 0);
        due.is("the least", five.filling(0), -9);
        due.is("the greatest", five.filling(14), 5);
    }

    private static void gapRefused() {
        due.part("13 gap, refused");
        CodeQuiz desk = desk(SET, 1, 4, COPY, 2, 1);
        due.is("gap", desk.gap(0, 0), 1);
        due.is("no SET", desk.gap(0, 1), STATE);
        due.is("no line", desk.gap(0, 2), NONE);
        due.is("no line", desk.gap(0, 20), NONE);
        due.is("no program", desk.gap(1, 0), NONE);
        for (int odd : ODD) {
            due.is("no line", desk.gap(0, odd), NONE);
            due.is("no program", desk.gap(odd, 0), NONE);
        }
        desk.line(0, LOOP, 0, 0);
        due.is("not whole", desk.gap(0, 0), STATE);
        due.is("NONE ahead of STATE", desk.gap(0, 3), NONE);
    }

    private static void filling() {
        due.part("14 filling");
        CodeQuiz desk = desk(SET, 1, 4, SET, 1, 5, COPY, 2, 1);
        due.is("before any", desk.filling(0), NO_VALUE);
        due.is("gap", desk.gap(0, 0), 19);
        due.is("refused", desk.gap(0, 2), STATE);
        due.is("refused", desk.gap(0, 3), NONE);
        for (int i = 0; i < 19; i++) {
            due.is("filling(" + i + ")", desk.filling(i), i - 9);
        }
        due.is("filling(19)", desk.filling(19), NO_VALUE);
        for (int odd : ODD) {
            due.is("filling", desk.filling(odd), NO_VALUE);
        }
        due.is("gap", desk.gap(0, 1), 1);
        due.is("of the latest", desk.filling(0), 5);
        due.is("of the latest", desk.filling(1), NO_VALUE);
    }

    private static void why() {
        due.part("15 why");
        // 1 if the input is above 4, else 0.
        CodeQuiz desk = desk(SET, 1, 4, LESS, 1, 0, SET, 2, 1, END, 0, 0);
        desk.question(0, 7, 0, 2);
        desk.question(0, 7, 1, 2);
        desk.question(0, 7, 2, 2);
        desk.question(0, 7, 0, 0);
        due.is("1", desk.why(0, 1), 0b1111100000);
        due.is("0", desk.why(0, 0), 0b0000011111);
        due.is("never", desk.why(0, 2), 0);
        due.is("never", desk.why(0, NO_VALUE), 0);
        due.is("variable 0", desk.why(3, 9), 1 << 9);
        due.is("of a LINE", desk.why(1, 1), NONE);
        due.is("of a CELL", desk.why(2, 0), NONE);
        due.is("no question", desk.why(4, 0), NONE);
        for (int odd : ODD) {
            due.is("no question", desk.why(odd, 0), NONE);
            due.is("never", desk.why(0, odd), 0);
        }
        // Spent by inputs from 7 on: they give nothing.
        CodeQuiz spent = desk(SET, 1, 1, LOOP, 0, 0, LOOP, 0, 0, LOOP, 0, 0, END, 0, 0, END, 0, 0, END, 0, 0);
        spent.question(0, 1, 0, 1);
        due.is("none of a spent run", spent.why(0, 1), 0b0000111111);
    }

    private static void same() {
        due.part("16 same");
        CodeQuiz desk = desk(ADD, 0, 0);
        add(desk, COPY, 1, 0, ADD, 0, 1, SET, 1, 0);
        add(desk, SET, 1, 8, LESS, 1, 0, SET, 2, 1, END, 0, 0, SET, 1, 0, ADD, 0, 0);
        add(desk, ADD, 0, 0, PUT, 0, 0);
        add(desk);
        int open = add(desk, LESS, 0, 0);
        due.is("alike", desk.same(0, 1), 10);
        due.is("itself", desk.same(2, 2), 10);
        due.is("only by 9", desk.same(0, 2), 9);
        due.is("only by 9", desk.same(2, 1), 9);
        due.is("cells do not count", desk.same(0, 3), 10);
        due.is("by 1 first", desk.same(4, 0), 1);
        int always = add(desk, SET, 0, 0);
        int zeroElse = add(desk, LESS, 1, 0, SET, 0, 0, END, 0, 0, SET, 1, 0);
        int onlyZero = add(desk, SET, 1, 1, LESS, 0, 1, SET, 2, 7, END, 0, 0, SET, 1, 0, SET, 0, 0);
        due.is("alike by all", desk.same(always, zeroElse), 10);
        due.is("only by 0", desk.same(always, onlyZero), 0);
        due.is("one not whole", desk.same(0, open), STATE);
        due.is("one not whole", desk.same(open, 0), STATE);
        due.is("NONE ahead of STATE", desk.same(open, 9), NONE);
        due.is("NONE ahead of STATE", desk.same(9, open), NONE);
        for (int odd : ODD) {
            due.is("no program", desk.same(odd, 0), NONE);
            due.is("no program", desk.same(0, odd), NONE);
        }
        CodeQuiz spent = desk(LOOP, 0, 0, LOOP, 0, 0, LOOP, 0, 0, END, 0, 0, END, 0, 0, END, 0, 0);
        add(spent, LOOP, 0, 0, LOOP, 0, 0, LOOP, 0, 0, SET, 1, 0, END, 0, 0, END, 0, 0, END, 0, 0);
        add(spent);
        add(spent, SET, 1, 5, LESS, 1, 0, SET, 1, 99, SET, 2, 99, LOOP, 1, 0, LOOP, 1, 0, END, 0, 0, END, 0, 0,
                END, 0, 0, SET, 1, 0);
        // n: 1 + 2n + 2n^2 + n^3 steps, 186 by 5 and 301 by 6; with the SET n^3 more, 169 by 4 and 311 by 5.
        due.is("the longer one is spent by 5", spent.same(0, 1), 5);
        due.is("the shorter one is spent by 6", spent.same(0, 2), 6);
        due.is("spent from 6 on", spent.same(3, 2), 6);
    }

    private static void give() {
        due.part("17 give");
        CodeQuiz desk = richDesk();
        desk.question(0, 2, 0, 2);
        due.is("first", desk.give(0, 0, 3), 1);
        due.is("in its place", desk.give(0, 0, 4), 1);
        due.is("second", desk.give(0, 1, NO_VALUE), 2);
        due.is("again", desk.give(0, 0, 3), 2);
        due.is("another pupil", desk.give(9, 1, 2), 1);
        due.is("the later one counts", desk.cost(0, 0), 5);
        due.is("no pupil", desk.give(10, 0, 0), NONE);
        due.is("no question", desk.give(0, 2, 0), NONE);
        due.is("no question", desk.give(0, 60, 0), NONE);
        for (int odd : ODD) {
            due.is("no pupil", desk.give(odd, 0, 0), NONE);
            due.is("no question", desk.give(0, odd, 0), NONE);
            due.is("any value", desk.give(5, 0, odd), 1);
        }
        due.is("refused ones change nothing", desk.give(0, 1, 2), 2);
        CodeQuiz many = desk();
        for (int q = 0; q < 60; q++) {
            many.question(0, 0, 0, 0);
            due.is("give", many.give(3, q, 0), q + 1);
        }
        due.is("all are right", many.cost(3, 0), 0);
        due.is("no question 60", many.give(3, 60, 0), NONE);
        due.is("no question 60", many.answer(60, 0), NO_VALUE);
        due.is("none left", many.next(3), NOTHING);
        due.is("all for another", many.next(4), 0);
    }

    private static void price() {
        due.part("18 price");
        CodeQuiz desk = new CodeQuiz();
        for (int what = 0; what < 7; what++) {
            due.is("at first", desk.price(what, 10 + what), what == 6 ? 5 : 3);
        }
        for (int what = 0; what < 7; what++) {
            due.is("what it was", desk.price(what, 1), 10 + what);
            due.is("to 99", desk.price(what, 99), 1);
            due.is("0", desk.price(what, 0), NONE);
            due.is("100", desk.price(what, 100), NONE);
            for (int odd : ODD) {
                due.is("v", desk.price(what, odd), NONE);
                due.is("what", desk.price(odd, 1), NONE);
            }
            due.is("refused ones change nothing", desk.price(what, 99), 99);
        }
        due.is("what", desk.price(7, 1), NONE);
    }

    private static void cost() {
        due.part("19 cost");
        CodeQuiz desk = richDesk();
        desk.question(0, 2, 0, 2);
        int[] prices = {11, 12, 14, 18, 26, 42, 70};
        for (int what = 0; what < 7; what++) {
            desk.price(what, prices[what]);
        }
        for (int machine = 0; machine < 64; machine++) {
            int want = 0;
            for (int slip = 0; slip < 6; slip++) {
                want += (machine >> slip & 1) * prices[slip];
            }
            due.is("cost(0, " + machine + ")", desk.cost(0, machine), Integer.bitCount(machine) > 2 ? NONE : want);
        }
        desk.give(0, 0, 4);
        due.is("a guess", desk.cost(0, 0), 70);
        due.is("a slip", desk.cost(0, 2), 12);
        due.is("a slip and a guess", desk.cost(0, 4), 84);
        desk.give(0, 1, 100);
        due.is("two guesses", desk.cost(0, 0), 140);
        due.is("a slip and a guess", desk.cost(0, 2), 82);
        due.is("two slips and two guesses", desk.cost(0, 48), 42 + 26 + 140);
        due.is("another pupil", desk.cost(1, 0), 0);
        due.is("no pupil", desk.cost(10, 0), NONE);
        due.is("no machine", desk.cost(0, 64), NONE);
        for (int odd : ODD) {
            due.is("no pupil", desk.cost(odd, 0), NONE);
            due.is("no machine", desk.cost(0, odd), NONE);
        }
    }

    private static void sets() {
        due.part("20 sets");
        CodeQuiz desk = richDesk();
        due.is("no answers", desk.sets(0), 1);
        due.is("no answers", desk.set(0, 0), 0);
        desk.give(0, 0, 4);
        due.is("the slip of LOOP", desk.sets(0), 1);
        due.is("the slip of LOOP", desk.set(0, 0), 2);
        // A guess as dear as a slip: the true machine, and the slip.
        desk.price(6, 3);
        due.is("either", desk.sets(0), 2);
        due.is("either", desk.set(0, 0), 0);
        due.is("either", desk.set(0, 1), 2);
        desk.price(6, 2);
        due.is("a guess", desk.sets(0), 1);
        due.is("a guess", desk.set(0, 0), 0);
        due.is("no pupil", desk.sets(10), NONE);
        for (int odd : ODD) {
            due.is("no pupil", desk.sets(odd), NONE);
        }
    }

    private static void set() {
        due.part("21 set");
        // Two slips at 1 each undo each other or not: all machines that give 7 for a question on COPY and SUB.
        CodeQuiz desk = desk(SET, 1, 4, SET, 2, 2, SUB, 1, 2, SET, 3, 5, COPY, 3, 1);
        desk.question(0, 0, 0, 1);
        desk.give(0, 0, -2);
        due.is("SUB", desk.sets(0), 1);
        due.is("SUB", desk.set(0, 0), 16);
        desk.give(0, 0, 5);
        due.is("COPY", desk.set(0, 0), 4);
        due.is("no second", desk.set(0, 1), NONE);
        // An answer that no machine gives, and slips that cost less than no slip never do.
        desk.give(0, 0, 1000);
        due.is("a guess", desk.sets(0), 1);
        due.is("a guess", desk.set(0, 0), 0);
        // Masks rise: four single slips give 1, and all of them cost alike.
        CodeQuiz many = desk(SET, 1, 1, SET, 2, 5, COPY, 2, 1, SUB, 2, 1, LESS, 1, 1, SET, 2, 4, END, 0, 0);
        many.question(0, 0, 0, 2);
        due.is("COPY", many.answer(0, 4), 0);
        due.is("LESS", many.answer(0, 8), 4);
        many.give(2, 0, 4);
        due.is("LESS", many.sets(2), 1);
        CodeQuiz rise = desk(SET, 2, 5, LOOP, 0, 0, SET, 3, 1, ADD, 1, 3, END, 0, 0, LESS, 0, 0, SET, 3, 1, ADD, 1, 3,
                END, 0, 0);
        rise.question(0, 1, 0, 1);
        rise.give(9, 0, 2);
        due.is("LOOP or LESS", rise.sets(9), 2);
        due.is("LOOP", rise.set(9, 0), 2);
        due.is("LESS", rise.set(9, 1), 8);
        rise.give(9, 0, 3);
        rise.price(6, 50);
        due.is("both", rise.sets(9), 1);
        due.is("both", rise.set(9, 0), 10);
        rise.price(6, 6);
        due.is("a guess or both", rise.sets(9), 2);
        due.is("a guess", rise.set(9, 0), 0);
        due.is("both", rise.set(9, 1), 10);
        due.is("no third", rise.set(9, 2), NONE);
        due.is("no pupil", rise.set(10, 0), NONE);
        for (int odd : ODD) {
            due.is("no pupil", rise.set(odd, 0), NONE);
            due.is("i", rise.set(9, odd), NONE);
        }
    }

    private static void next() {
        due.part("22 next");
        CodeQuiz desk = desk(SET, 2, 5, LOOP, 0, 0, SET, 3, 1, ADD, 1, 3, END, 0, 0, LESS, 0, 0, SET, 3, 1, ADD, 1, 3,
                END, 0, 0);
        due.is("no questions", desk.next(0), NOTHING);
        desk.question(0, 1, 0, 1);
        desk.question(0, 1, 0, 2);
        desk.question(0, 1, 1, 3);
        desk.question(0, 1, 1, 7);
        due.is("one set: the least question", desk.next(0), 0);
        desk.give(0, 0, 2);
        due.is("LOOP or LESS: question 1 does not part them", desk.next(0), 2);
        desk.give(0, 2, 2);
        due.is("LOOP alone: the least question", desk.next(0), 1);
        desk.give(0, 1, 5);
        due.is("one left", desk.next(0), 3);
        desk.give(0, 3, 0);
        due.is("none left", desk.next(0), NOTHING);
        due.is("another pupil", desk.next(9), 0);
        desk.question(0, 1, 0, 0);
        due.is("a new one", desk.next(0), 4);
        due.is("no pupil", desk.next(10), NONE);
        for (int odd : ODD) {
            due.is("no pupil", desk.next(odd), NONE);
        }
        nextByTheGreatestGroup();
    }

    /** Four sets: a question that parts them 2 and 2 is better than one that parts 3 and 1. */
    private static void nextByTheGreatestGroup() {
        CodeQuiz desk = desk(
                SET, 1, 1, LOOP, 1, 0, ADD, 2, 1, END, 0, 0,        // 2: 1, by LOOP 2
                LESS, 1, 1, ADD, 2, 1, END, 0, 0,                   // by LESS 2, too
                SET, 3, 2, SUB, 3, 1, ADD, 2, 3, ADD, 2, 1);        // 2 more, by SUB 0 more
        desk.question(0, 0, 0, 2);
        desk.question(0, 0, 1, 2);
        desk.question(0, 0, 0, 3);
        due.is("right", desk.answer(0, 0), 3);
        due.is("LOOP", desk.answer(0, 2), 4);
        due.is("LESS", desk.answer(0, 8), 4);
        due.is("SUB", desk.answer(0, 16), 1);
        desk.price(6, 3);
        desk.give(0, 0, 4);
        due.is("the true one, LOOP and LESS", desk.sets(0), 3);
        due.is("only LOOP does line 2 twice", desk.next(0), 1);
        int p = add(desk, SET, 1, 1, LOOP, 1, 0, ADD, 2, 1, END, 0, 0, LESS, 1, 1, SET, 2, 9, END, 0, 0);
        due.is("question", desk.question(p, 0, 0, 2), 3);
        due.is("all three apart", desk.next(0), 3);
        desk.give(0, 3, 77);
        due.is("then the other", desk.next(0), 1);
    }

    private static void parting() {
        due.part("23 parting");
        due.is("no questions", new CodeQuiz().parting(), NOTHING);
        CodeQuiz desk = slipByQuestion(0, 1, 2, 3, 4, 5);
        for (int q = 0; q < 6; q++) {
            for (int slip = 0; slip < 6; slip++) {
                due.holds("only slip " + q, (desk.answer(q, 0) != desk.answer(q, 1 << slip)) == (q == slip));
            }
        }
        due.is("all six are needed", desk.parting(), 6);
        due.is("five do not part", slipByQuestion(0, 1, 2, 3, 4).parting(), NOTHING);
        due.is("five do not part, asked twice", slipByQuestion(1, 2, 3, 4, 5, 1, 2, 3, 4, 5).parting(), NOTHING);
        due.is("six of twelve", slipByQuestion(0, 0, 1, 1, 2, 2, 3, 3, 4, 4, 5, 5).parting(), 6);
    }

    private static void partingFewest() {
        due.part("23 parting, fewest");
        CodeQuiz desk = slipByQuestion(0, 1, 2, 3, 4, 5);
        // One that all but the slip of SHARE part: question 0 and it.
        int p = add(desk,
                SET, 1, 1, LOOP, 1, 0, ADD, 2, 1, END, 0, 0,
                SET, 3, 50, COPY, 3, 1, ADD, 2, 3,
                LESS, 0, 0, SET, 2, 77, END, 0, 0,
                SET, 1, 1, SET, 3, 7, SUB, 3, 1, ADD, 2, 3,
                SET, 3, 20, PUT, 1, 3, GET, 3, 1, ADD, 2, 3);
        due.is("question", desk.question(p, 0, 0, 2), 6);
        for (int slip = 1; slip < 6; slip++) {
            due.holds("slip " + slip + " is seen", desk.answer(6, 1 << slip) != desk.answer(6, 0));
        }
        due.is("two", desk.parting(), 2);
        CodeQuiz one = desk(
                SHARE, 1, 0, SET, 1, 1, PUT, 1, 1, GET, 2, 5,           // 2: 1, by SHARE 0, by GET 0
                SET, 3, 3, PUT, 3, 3, GET, 0, 3, ADD, 2, 0,             // 4, by SHARE 3, by GET 0
                LOOP, 3, 0, ADD, 2, 3, END, 0, 0,                       // 9 more, by LOOP 12 more
                SET, 0, 41, COPY, 0, 1, ADD, 2, 0,                      // 1 more, by COPY 41 more
                LESS, 1, 1, SET, 2, 99, END, 0, 0,                      // by LESS 99
                SUB, 2, 3);                                             // 3 less, by SUB below 0
        due.is("question", one.question(0, 0, 0, 2), 0);
        due.is("one", one.parting(), 1);
        due.is("question", one.question(0, 0, 0, 1), 1);
        due.is("the first of two", one.parting(), 1);
    }

    private static void partingFirstTwelve() {
        due.part("23 parting, the first twelve");
        due.is("the twelfth counts", slipByQuestion(0, 1, 2, 3, 4, 0, 0, 0, 0, 0, 0, 5).parting(), 6);
        due.is("the thirteenth does not", slipByQuestion(0, 1, 2, 3, 4, 0, 0, 0, 0, 0, 0, 0, 5).parting(), NOTHING);
    }

    private static void count() {
        due.part("24 count");
        CodeQuiz desk = desk(SET, 1, 4, SET, 1, 5);
        add(desk);
        add(desk, SET, 0, 0);
        desk.question(0, 0, 0, 0);
        desk.question(1, 0, 0, 0);
        desk.question(1, 0, 1, 0);
        due.is("programs", desk.count(0), 3);
        due.is("questions", desk.count(1), 2);
        due.is("lines", desk.count(2), 3);
        due.is("what", desk.count(3), NONE);
        for (int odd : ODD) {
            due.is("what", desk.count(odd), NONE);
        }
    }
}
