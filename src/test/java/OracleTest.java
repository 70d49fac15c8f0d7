import java.util.ArrayList;
import java.util.List;
import java.util.Random;

/** Long runs of calls, the same each time: each answer must be the one of the plain desk of Oracle. */
public final class OracleTest {
    private static final int RUNS = 1500, CALLS = 512;
    private static final int[] ODD = {Integer.MIN_VALUE, Integer.MAX_VALUE, -2, 100, 64, 60, 20, 21, 10, 8, 7};
    /** Lines by which one slip or another is seen in variable 2. */
    private static final int[][] TELLING = {
        {0, 1, 1, 4, 1, 0, 2, 2, 1, 6, 0, 0}, {4, 0, 0, 2, 2, 0, 6, 0, 0}, {0, 3, 5, 1, 3, 1, 2, 2, 3},
        {0, 3, 9, 1, 2, 3}, {5, 1, 1, 2, 2, 2, 6, 0, 0}, {5, 2, 0, 0, 3, 3, 2, 2, 3, 6, 0, 0}, {3, 2, 1},
        {0, 3, 7, 3, 2, 3}, {7, 1, 0, 8, 3, 1, 2, 2, 3}, {7, 0, 0, 8, 2, 0}, {9, 1, 0, 7, 5, 0, 8, 2, 1},
        {9, 0, 1, 0, 3, 6, 7, 0, 3, 8, 3, 4, 2, 2, 3}, {0, 2, 2}, {2, 2, 2}, {2, 1, 0}};
    private static final Due due = new Due();
    private static final int[] answeredByName = new int[23];
    private static final int[] partingSeen = new int[8];

    private final Random random;
    private final CodeQuiz desk = new CodeQuiz();
    private final Oracle oracle = new Oracle();
    private final List<String> calls = new ArrayList<>();
    private boolean apart;

    private OracleTest(long seed) {
        random = new Random(seed);
        due.part("run " + seed);
    }

    public static void main(String[] args) {
        for (int seed = 0; seed < RUNS; seed++) {
            new OracleTest(seed).play();
        }
        due.part("coverage");
        for (int i = 0; i < answeredByName.length; i++) {
            due.holds("call " + i + " was often not refused", answeredByName[i] > 200);
        }
        for (int n = 2; n <= 4; n++) {
            due.holds("parting often answered " + n, partingSeen[n] > 20);
        }
        due.end();
    }

    private void play() {
        int style = random.nextInt(4);
        while (!isOver()) {
            int dice = random.nextInt(100);
            if (dice < 8) {
                build();
            } else if (style > 0 && dice < 25) {
                buildTelling();
            } else {
                call(random.nextInt(23));
            }
        }
    }

    /** What later calls answer is free. */
    private boolean isOver() {
        return calls.size() >= CALLS || apart;
    }

    private void check(int name, String call, int got, int want) {
        if (isOver()) {
            return;
        }
        calls.add(call + " = " + want);
        if (want >= 0 || want < -5 && want != CodeQuiz.NO_VALUE) {
            answeredByName[name]++;
        }
        due.is(call, got, want);
        if (got != want) {
            apart = true;
            calls.forEach(System.out::println);
        }
    }

    private boolean odd() {
        return random.nextInt(60) == 0;
    }

    private int number(int limit) {
        if (odd()) {
            return random.nextBoolean() ? ODD[random.nextInt(ODD.length)] : limit;
        }
        return limit <= 0 ? 0 : random.nextInt(limit);
    }

    private int program() {
        return number(oracle.count(0));
    }

    private int question() {
        return number(oracle.count(1));
    }

    private int pupil() {
        return odd() ? 10 : random.nextInt(3);
    }

    /** A program more, or lines more for one that is open; most of them whole in the end, with lines for each slip. */
    private void build() {
        int p = random.nextInt(3) == 0 ? newProgram(oracle.count(0)) : random.nextInt(Math.max(1, oracle.count(0)));
        int open = oracle.whole(p) == 0 ? 1 : 0;
        int lines = 1 + random.nextInt(10);
        for (int i = 0; i < lines && !apart; i++) {
            open += randomLine(p, open);
        }
        while (open > 0 && random.nextInt(12) != 0 && !apart) {
            if (line(p, 6, 0, 0) < 0) {
                break;
            }
            open--;
        }
    }

    /** A program of telling lines, and a question of it. */
    private void buildTelling() {
        int p = newProgram(oracle.count(0));
        for (int parts = 2 + random.nextInt(6); parts > 0; parts--) {
            int[] part = TELLING[random.nextInt(TELLING.length)];
            for (int i = 0; i < part.length && (i > 0 || oracle.about(p, 20 - part.length / 3, 0) < 0); i += 3) {
                line(p, part[i], part[i + 1], part[i + 2]);
            }
        }
        int kind = random.nextInt(6);
        question(p, random.nextInt(10), kind == 1 || kind == 2 ? kind : 0, kind == 1 || kind == 2 ? number(8) : 2);
    }

    private int newProgram(int ifFull) {
        int p = oracle.program();
        check(0, "program()", desk.program(), p);
        return p < 0 ? random.nextInt(ifFull) : p;
    }

    private int line(int p, int op, int x, int y) {
        int want = oracle.line(p, op, x, y);
        check(1, "line(" + p + ", " + op + ", " + x + ", " + y + ")", desk.line(p, op, x, y), want);
        return want;
    }

    /** Answers how many blocks more are open. */
    private int randomLine(int p, int open) {
        int op = random.nextInt(10);
        if (op == 6 && open == 0 || (op == 4 || op == 5) && open > 2) {
            op = 0;
        }
        int x = op == 6 ? 0 : number(op == 7 ? 8 : op == 9 ? 2 : 4);
        int y = op == 4 || op == 6 ? 0 : number(op == 8 ? 8 : op == 9 ? 2 : 4);
        if (op == 0) {
            int[] limits = {3, 5, 10, 100};
            int limit = limits[random.nextInt(4)];
            y = random.nextInt(2 * limit + 1) - limit;
        }
        if (odd()) {
            y = y + 1 - random.nextInt(3);
        }
        int want = line(p, op, x, y);
        return want < 0 ? 0 : op == 4 || op == 5 ? 1 : op == 6 ? -1 : 0;
    }

    private int answerOfSome(int q) {
        int machine = random.nextInt(3) == 0 ? random.nextInt(64) : 1 << random.nextInt(7) >> 1;
        int value = oracle.answer(q, machine);
        return random.nextInt(8) == 0 ? random.nextInt(20) - 5 : value;
    }

    private void call(int name) {
        int p = program();
        int q = question();
        int u = pupil();
        int a = number(64);
        int i = number(10);
        int few = number(4);
        int lines = number(20);
        switch (name) {
            case 0 -> build();
            case 1 -> randomLine(p, 1);
            case 2 -> check(2, "about(" + p + ", " + lines + ", " + few + ")", desk.about(p, lines, few),
                    oracle.about(p, lines, few));
            case 3 -> check(3, "whole(" + p + ")", desk.whole(p), oracle.whole(p));
            case 4, 5, 6 -> runAndLook(p, i, a);
            case 7 -> ask(p, i);
            case 8 -> check(8, "answer(" + q + ", " + a + ")", desk.answer(q, a), oracle.answer(q, a));
            case 9, 10 -> choose(q);
            case 11, 12 -> fill(p, lines);
            case 13 -> {
                int v = oracle.answer(q, 0);
                check(13, "why(" + q + ", " + v + ")", desk.why(q, v), oracle.why(q, v));
            }
            case 14 -> {
                int other = program();
                check(14, "same(" + p + ", " + other + ")", desk.same(p, other), oracle.same(p, other));
            }
            case 15, 16 -> {
                int v = answerOfSome(q);
                check(15, "give(" + u + ", " + q + ", " + v + ")", desk.give(u, q, v), oracle.give(u, q, v));
            }
            default -> pupilCall(name, u, a);
        }
        ask(p, i);
        lookAgain();
    }

    private void pupilCall(int name, int u, int a) {
        int what = number(7);
        int v = odd() ? number(101) : 1 + random.nextInt(9);
        check(16, "price(" + what + ", " + v + ")", desk.price(what, v), oracle.price(what, v));
        int machine = random.nextBoolean() ? a : 1 << random.nextInt(6) | 1 << random.nextInt(6);
        check(17, "cost(" + u + ", " + machine + ")", desk.cost(u, machine), oracle.cost(u, machine));
        int sets = oracle.sets(u);
        check(18, "sets(" + u + ")", desk.sets(u), sets);
        for (int i = odd() ? -1 : 0; i <= sets; i++) {
            check(19, "set(" + u + ", " + i + ")", desk.set(u, i), oracle.set(u, i));
        }
        check(20, "next(" + u + ")", desk.next(u), oracle.next(u));
        if (name == 22) {
            int fewest = oracle.parting();
            check(21, "parting()", desk.parting(), fewest);
            partingSeen[fewest < 0 ? 0 : fewest]++;
        }
    }

    private void runAndLook(int p, int input, int machine) {
        check(4, "run(" + p + ", " + input + ", " + machine + ")", desk.run(p, input, machine),
                oracle.run(p, input, machine));
        for (int i = 0; i < 4; i++) {
            int what = random.nextInt(16) - 1;
            check(5, "told(" + what + ")", desk.told(what), oracle.told(what));
            int line = random.nextInt(22) - 1;
            check(6, "done(" + line + ")", desk.done(line), oracle.done(line));
        }
    }

    private void lookAgain() {
        int what = number(4);
        switch (random.nextInt(8)) {
            case 0 -> check(5, "told(2)", desk.told(2), oracle.told(2));
            case 1 -> check(10, "choice(1, 0)", desk.choice(1, 0), oracle.choice(1, 0));
            case 2 -> check(12, "filling(1)", desk.filling(1), oracle.filling(1));
            default -> check(22, "count(" + what + ")", desk.count(what), oracle.count(what));
        }
    }

    private void ask(int p, int input) {
        // Not too often: a question ends the building of its program.
        if (random.nextInt(6) == 0) {
            int kind = number(3);
            question(p, input, kind, number(kind == 0 ? 4 : kind == 2 ? 8 : 12));
        }
    }

    private void question(int p, int input, int kind, int what) {
        check(7, "question(" + p + ", " + input + ", " + kind + ", " + what + ")",
                desk.question(p, input, kind, what), oracle.question(p, input, kind, what));
    }

    private void choose(int q) {
        int n = odd() ? number(9) : 2 + random.nextInt(5);
        check(9, "choices(" + q + ", " + n + ")", desk.choices(q, n), oracle.choices(q, n));
        for (int i = 0; i <= n; i++) {
            int what = odd() ? number(3) : random.nextInt(2);
            check(10, "choice(" + i + ", " + what + ")", desk.choice(i, what), oracle.choice(i, what));
        }
    }

    private void fill(int p, int line) {
        int at = line;
        for (int i = 0; i < 20 && oracle.about(p, at, 0) != 0; i++) {
            at = i;
        }
        at = odd() ? line : at;
        check(11, "gap(" + p + ", " + at + ")", desk.gap(p, at), oracle.gap(p, at));
        for (int i = 0; i < 4; i++) {
            int which = random.nextInt(i < 2 ? 3 : 21) - (odd() ? 1 : 0);
            check(12, "filling(" + which + ")", desk.filling(which), oracle.filling(which));
        }
    }
}
