import java.lang.reflect.InvocationTargetException;
import java.lang.reflect.Method;
import java.util.ArrayList;
import java.util.Arrays;
import java.util.Comparator;
import java.util.List;
import java.util.function.IntUnaryOperator;
import java.util.function.ToIntFunction;

/** What the tests share: the document's numbers, desks to begin with, and how to see that nothing changed. */
class Desks {
    static final int NONE = -1, FULL = -2, STATE = -3, NO_VALUE = -2000000000, NOTHING = -5;
    static final int SET = 0, COPY = 1, ADD = 2, SUB = 3, LOOP = 4, LESS = 5, END = 6, PUT = 7, GET = 8, SHARE = 9;
    static final int MIN = Integer.MIN_VALUE, MAX = Integer.MAX_VALUE;
    static final int[] ODD = {-1, MIN, MAX};
    /** Six lines by which variable 1 becomes MIN: 1, doubled 31 times. They take 66 steps; variable 2 becomes 1. */
    static final int[] MIN_IN_1 = {SET, 1, 1, SET, 2, 31, LOOP, 2, 0, ADD, 1, 1, END, 0, 0, SET, 2, 1};
    /** A question about variable 2 by the input 0 is answered unlike by each two machines with at most one slip. */
    static final int[] PARTS_ALL = {
        SHARE, 1, 0, SET, 1, 1, PUT, 1, 1, GET, 2, 5,           // 2: 1, by SHARE 0, by GET 0
        SET, 3, 3, PUT, 3, 3, GET, 0, 3, ADD, 2, 0,             // 4, by SHARE 3, by GET 0
        LOOP, 3, 0, ADD, 2, 3, END, 0, 0,                       // 9 more, by LOOP 12 more
        SET, 0, 41, COPY, 0, 1, ADD, 2, 0,                      // 1 more, by COPY 41 more
        LESS, 1, 1, SET, 2, 99, END, 0, 0,                      // by LESS 99
        SUB, 2, 3};                                             // 3 less, by SUB below 0
    static final int[] PARTS_ALL_ANSWERS = {11, 10, 14, 51, 96, -11, 7};
    /** By the input 4 each what of 0 .. 11 is told as itself. */
    static final int[] TOLD_AS_ITSELF = {SET, 1, 1, SET, 2, 4, LOOP, 2, 0, PUT, 0, 0, ADD, 0, 1, END, 0, 0,
        LOOP, 2, 0, PUT, 4, 0, ADD, 0, 1, END, 0, 0, SET, 0, 0, SET, 2, 2, SET, 3, 3};
    static final Due due = new Due();

    private static final int CALLS_OF_AN_OBJECT = 512, MOST_CALLS_AHEAD = 150;

    /** A new desk with a program of the lines: op, x, y, op, x, y, .. */
    static CodeQuiz desk(int... lines) {
        CodeQuiz desk = new CodeQuiz();
        add(desk, lines);
        return desk;
    }

    static int add(CodeQuiz desk, int... lines) {
        int p = desk.program();
        for (int i = 0; i < lines.length; i += 3) {
            due.is("line " + i / 3, desk.line(p, lines[i], lines[i + 1], lines[i + 2]), i / 3);
        }
        return p;
    }

    static int[] join(int[] lines, int... more) {
        int[] all = Arrays.copyOf(lines, lines.length + more.length);
        System.arraycopy(more, 0, all, lines.length, more.length);
        return all;
    }

    /** Six lines that take so many steps (104 to 302) by the true machine, and then more lines. */
    static int[] lasting(int steps, int... more) {
        return join(new int[] {SET, 1, 99, ADD, 1, 1, SET, 2, steps - 203, ADD, 1, 2, LOOP, 1, 0, END, 0, 0}, more);
    }

    /** The number of steps, and then some of what is told. */
    static void ran(CodeQuiz desk, int input, int machine, int steps, int... whatAndWant) {
        String name = "run(0, " + input + ", " + machine + ")";
        due.is(name, desk.run(0, input, machine), steps);
        for (int i = 0; i < whatAndWant.length; i += 2) {
            due.is(name + " told(" + whatAndWant[i] + ")", desk.told(whatAndWant[i]), whatAndWant[i + 1]);
        }
    }

    /** Question 0, by the input 3: 3; by slips 2, 4, 8, 16, 32: 4, 52, 77, -1, 23. */
    static CodeQuiz richDesk() {
        CodeQuiz desk = desk(
                SET, 1, 1, LOOP, 0, 0, ADD, 2, 1, END, 0, 0,     // 2 becomes the input, by slip 2 one more
                SUB, 2, 1,                                       // one less, by slip 16 below 0
                SET, 3, 50, COPY, 3, 1, ADD, 2, 3,               // 1 more, by slip 4 50 more
                LESS, 0, 0, SET, 2, 77, END, 0, 0,               // by slip 8 it is 77
                SET, 0, 2, SET, 3, 20, PUT, 0, 3, SET, 0, 1, GET, 3, 0, ADD, 2, 3, // by slip 32 20 more
                SET, 0, 0);
        due.is("question", desk.question(0, 3, 0, 2), 0);
        return desk;
    }

    /** Six programs, and for each slip bit that is named a question that this slip alone answers wrong. */
    static CodeQuiz slipByQuestion(int... slips) {
        CodeQuiz desk = new CodeQuiz();
        add(desk, SHARE, 1, 0, SET, 1, 1, PUT, 0, 1, GET, 2, 4);
        add(desk, SET, 1, 1, LOOP, 1, 0, ADD, 2, 1, END, 0, 0);
        add(desk, SET, 1, 1, COPY, 2, 1);
        add(desk, LESS, 2, 1, SET, 2, 1, END, 0, 0);
        add(desk, SET, 2, 1, SUB, 2, 1);
        add(desk, SET, 1, 1, PUT, 4, 1, GET, 2, 4);
        for (int slip : slips) {
            desk.question(slip, 0, slip == 0 ? 2 : 0, slip == 0 ? 4 : 2);
        }
        return desk;
    }

    /** By the true machine 299 steps; by slip 2 it is spent before line 6, with 99 in variable 3 and in cell 4. */
    static CodeQuiz spentBySlip2() {
        return desk(SET, 1, 98, SET, 2, 1, LOOP, 1, 0, ADD, 3, 2, PUT, 4, 3, END, 0, 0, SET, 3, -1, PUT, 4, 3);
    }

    /** A desk with a program without lines, and so many questions whose answer is 0 by each machine. */
    static CodeQuiz plainQuestions(int n) {
        CodeQuiz desk = desk();
        for (int q = 0; q < n; q++) {
            due.is("question", desk.question(0, 0, 0, 0), q);
        }
        return desk;
    }

    /**
     * A desk on which each call has been used. Programs: 0 has questions 0 to 2, 1 is whole, 2 is open, 3 has no
     * lines, 4 is spent by each input.
     */
    static CodeQuiz usedDesk() {
        CodeQuiz desk = richDesk();
        desk.question(0, 3, 1, 2);
        desk.question(0, 3, 2, 7);
        add(desk, SET, 1, 4, LESS, 0, 1, SET, 2, 1, END, 0, 0);
        add(desk, SET, 1, 1, LOOP, 0, 0);
        add(desk);
        add(desk, SET, 0, 9, LOOP, 0, 0, LOOP, 0, 0, LOOP, 0, 0, END, 0, 0, END, 0, 0, END, 0, 0);
        due.is("run", desk.run(1, 3, 8), 4);
        due.is("choices", desk.choices(0, 3), 3);
        due.is("gap", desk.gap(1, 0), 1);
        due.is("give", desk.give(0, 0, 4), 1);
        due.is("give", desk.give(0, 1, 3), 2);
        due.is("give", desk.give(9, 2, 5), 1);
        due.is("price", desk.price(1, 7), 3);
        due.is("price", desk.price(6, 11), 5);
        return desk;
    }

    /** Makes the call on the second of two desks of a kind; it is refused, and later calls answer alike on both. */
    static void refused(String call, CodeQuiz plain, CodeQuiz other, ToIntFunction<CodeQuiz> refusedCall, int want) {
        due.is(call, refusedCall.applyAsInt(other), want);
        List<Integer> unchanged = look(plain);
        List<Integer> got = look(other);
        due.is("after " + call + ": how many later calls", got.size(), unchanged.size());
        for (int i = 0; i < Math.min(got.size(), unchanged.size()); i++) {
            due.is("after " + call + ": later call " + i, got.get(i), unchanged.get(i));
        }
        due.holds("no more calls than an object has", got.size() + MOST_CALLS_AHEAD < CALLS_OF_AN_OBJECT);
    }

    static void refused(String call, ToIntFunction<CodeQuiz> refusedCall, int want) {
        refused(call, usedDesk(), usedDesk(), refusedCall, want);
    }

    /** What all calls answer; first those that only look, then those that show by their answers what was there. */
    private static List<Integer> look(CodeQuiz desk) {
        List<Integer> seen = new ArrayList<>();
        lookAtLatest(desk, seen);
        lookAtPrograms(desk, seen);
        lookAtQuestions(desk, seen);
        lookAtPupils(desk, seen);
        for (int what = 0; what < 7; what++) {
            seen.add(desk.price(what, 50));
        }
        for (int p = 0; p < 10; p++) {
            seen.add(desk.line(p, SET, 3, 5));
            seen.add(desk.line(p, END, 0, 0));
            seen.add(desk.question(p, 3, 0, 3));
        }
        seen.add(desk.program());
        return seen;
    }

    private static void lookAtLatest(CodeQuiz desk, List<Integer> seen) {
        for (int what = 0; what < 14; what++) {
            seen.add(desk.told(what));
        }
        for (int line = 0; line < 21; line++) {
            seen.add(desk.done(line));
        }
        for (int i = 0; i < 7; i++) {
            seen.add(desk.choice(i, 0));
            seen.add(desk.choice(i, 1));
        }
        for (int i = 0; i < 20; i++) {
            seen.add(desk.filling(i));
        }
    }

    private static void lookAtPrograms(CodeQuiz desk, List<Integer> seen) {
        for (int what = 0; what < 3; what++) {
            seen.add(desk.count(what));
        }
        for (int p = 0; p < 10; p++) {
            seen.add(desk.whole(p));
            int op = 0;
            for (int line = 0; op != NO_VALUE; line++) {
                op = desk.about(p, line, 0);
                seen.add(op);
                for (int what = 1; op != NO_VALUE && what < 4; what++) {
                    seen.add(desk.about(p, line, what));
                }
            }
        }
    }

    private static void lookAtQuestions(CodeQuiz desk, List<Integer> seen) {
        seen.add(desk.parting());
        for (int q : new int[] {0, 1, 2, 59}) {
            for (int machine : new int[] {0, 2, 8, 63}) {
                seen.add(desk.answer(q, machine));
            }
            seen.add(desk.why(q, 3));
        }
    }

    private static void lookAtPupils(CodeQuiz desk, List<Integer> seen) {
        for (int pupil : new int[] {0, 1, 9}) {
            seen.add(desk.cost(pupil, 0));
            seen.add(desk.cost(pupil, 2));
            seen.add(desk.sets(pupil));
            seen.add(desk.set(pupil, 0));
            seen.add(desk.next(pupil));
            seen.add(desk.give(pupil, 1, 4));
            seen.add(desk.give(pupil, 2, 4));
        }
    }

    /** Runs each test of a class, and asks for at least one of each promise from the first to the last. */
    static void runAll(Class<?> tests, int firstPromise, int lastPromise) throws IllegalAccessException {
        Method[] methods = tests.getDeclaredMethods();
        Arrays.sort(methods, Comparator.comparing(Method::getName));
        int[] testsOf = new int[100];
        for (Method method : methods) {
            if (method.getName().matches("promise\\d\\d_\\w+")) {
                testsOf[Integer.parseInt(method.getName().substring(7, 9))]++;
                runOne(method);
            }
        }
        due.part("all promises");
        for (int promise = firstPromise; promise <= lastPromise; promise++) {
            due.holds("promise " + promise + " has a test", testsOf[promise] > 0);
        }
        due.end();
    }

    private static void runOne(Method test) throws IllegalAccessException {
        due.part(test.getName());
        int before = due.looked();
        try {
            test.invoke(null);
        } catch (InvocationTargetException thrown) {
            due.holds("ending without " + thrown.getCause(), false);
        }
        due.holds("looking at something", due.looked() > before);
    }

    /** Just outside of both bounds, and far outside. */
    static void outside(String call, IntUnaryOperator of, int least, int greatest, int want) {
        for (int value : new int[] {least - 1, greatest + 1, MIN, MAX}) {
            due.is(call + " of " + value, of.applyAsInt(value), want);
        }
    }
}
