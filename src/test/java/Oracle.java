import java.util.ArrayList;
import java.util.HashMap;
import java.util.HashSet;
import java.util.List;
import java.util.Map;
import java.util.Set;
import java.util.TreeMap;
import java.util.TreeSet;

/**
 * A second desk, written from the document alone and as plainly as can be: blocks are run by recursion, nothing is
 * kept that can be found again. OracleTest compares its answers with CodeQuiz's.
 */
final class Oracle {
    private static final int NONE = -1, FULL = -2, STATE = -3, NO_VALUE = -2000000000;

    private record Line(int op, int x, int y) { }

    private record Asked(int program, int input, int kind, int what) { }

    private static final class Spent extends RuntimeException {
        private static final long serialVersionUID = 1;
    }

    private final List<List<Line>> programs = new ArrayList<>();
    private final List<Asked> questions = new ArrayList<>();
    private final List<Map<Integer, Integer>> given = new ArrayList<>();
    private final int[] prices = {3, 3, 3, 3, 3, 3, 5};
    private Run latest;
    private List<int[]> latestChoices = List.of();
    private List<Integer> latestFillings = List.of();

    Oracle() {
        for (int i = 0; i < 10; i++) {
            given.add(new TreeMap<>());
        }
    }

    /** One run of a whole program. */
    private static final class Run {
        private final List<Line> lines;
        private final int slips;
        private final int[] variables = new int[4];
        private final int[][] rows = {new int[4], new int[4]};
        private final int[] done;
        private int steps;
        private boolean spent;

        Run(List<Line> lines, int input, int slips) {
            this.lines = List.copyOf(lines);
            this.slips = slips;
            done = new int[lines.size()];
            variables[0] = input;
            try {
                block(0, lines.size());
            } catch (Spent stop) {
                spent = true;
            }
        }

        private boolean slip(int bit) {
            return (slips / bit) % 2 == 1;
        }

        private void step(int at) {
            if (steps == 300) {
                throw new Spent();
            }
            steps++;
            done[at]++;
        }

        private int endOf(int opener) {
            int open = 0;
            for (int at = opener;; at++) {
                int op = lines.get(at).op;
                open += op == 4 || op == 5 ? 1 : op == 6 ? -1 : 0;
                if (open == 0) {
                    return at;
                }
            }
        }

        private void block(int from, int to) {
            int at = from;
            while (at < to) {
                step(at);
                Line line = lines.get(at);
                if (line.op == 4 || line.op == 5) {
                    int end = endOf(at);
                    long rounds = line.op == 4 ? rounds(line) : holds(line) ? 1 : 0;
                    for (long i = 0; i < rounds; i++) {
                        block(at + 1, end);
                        step(end);
                    }
                    at = end + 1;
                } else {
                    plain(line);
                    at++;
                }
            }
        }

        private long rounds(Line line) {
            long rounds = variables[line.x];
            return rounds > 0 && slip(2) ? rounds + 1 : rounds;
        }

        private boolean holds(Line line) {
            return slip(8) ? variables[line.x] <= variables[line.y] : variables[line.x] < variables[line.y];
        }

        private void plain(Line line) {
            int x = line.x;
            int y = line.y;
            switch (line.op) {
                case 0 -> variables[x] = y;
                case 1 -> variables[slip(4) ? y : x] = variables[slip(4) ? x : y];
                case 2 -> variables[x] = variables[x] + variables[y];
                case 3 -> variables[x] = (slip(16) ? -1 : 1) * (variables[x] - variables[y]);
                case 7 -> rows[x / 4][Math.floorMod(variables[x % 4], 4)] = variables[y];
                case 8 -> variables[x] = rows[y / 4][(Math.floorMod(variables[y % 4], 4) + (slip(32) ? 1 : 0)) % 4];
                default -> rows[x] = slip(1) ? rows[y].clone() : rows[y];
            }
        }

        int answer(int kind, int what) {
            return kind == 0 ? variables[what] : kind == 1 ? done[what] : rows[what / 4][what % 4];
        }

        List<Integer> end(boolean withCells) {
            List<Integer> all = new ArrayList<>();
            if (spent) {
                return all;
            }
            for (int v : variables) {
                all.add(v);
            }
            for (int i = 0; withCells && i < 8; i++) {
                all.add(rows[i / 4][i % 4]);
            }
            return all;
        }
    }

    private static boolean in(int v, int least, int greatest) {
        return least <= v && v <= greatest;
    }

    private boolean noProgram(int p) {
        return !in(p, 0, programs.size() - 1);
    }

    private boolean noQuestion(int q) {
        return !in(q, 0, questions.size() - 1);
    }

    private int open(List<Line> lines) {
        return lines.stream().mapToInt(l -> l.op == 4 || l.op == 5 ? 1 : l.op == 6 ? -1 : 0).sum();
    }

    private boolean isWhole(int p) {
        return open(programs.get(p)) == 0;
    }

    int program() {
        if (programs.size() == 10) {
            return FULL;
        }
        programs.add(new ArrayList<>());
        return programs.size() - 1;
    }

    int line(int p, int op, int x, int y) {
        int[][] greatest = {{3, 99}, {3, 3}, {3, 3}, {3, 3}, {3, 0}, {3, 3}, {0, 0}, {7, 3}, {3, 7}, {1, 1}};
        if (noProgram(p) || !in(op, 0, 9) || !in(x, 0, greatest[op][0])
                || !in(y, op == 0 ? -99 : 0, greatest[op][1])) {
            return NONE;
        }
        if (op == 6 && isWhole(p) || questions.stream().anyMatch(a -> a.program == p)) {
            return STATE;
        }
        if (programs.get(p).size() == 20) {
            return FULL;
        }
        programs.get(p).add(new Line(op, x, y));
        return programs.get(p).size() - 1;
    }

    int about(int p, int line, int what) {
        if (noProgram(p) || !in(line, 0, programs.get(p).size() - 1) || !in(what, 0, 3)) {
            return NO_VALUE;
        }
        Line l = programs.get(p).get(line);
        return what == 0 ? l.op : what == 1 ? l.x : what == 2 ? l.y : open(programs.get(p).subList(0, line));
    }

    int whole(int p) {
        return noProgram(p) ? NONE : isWhole(p) ? 1 : 0;
    }

    int run(int p, int input, int machine) {
        if (noProgram(p) || !in(input, 0, 9) || !in(machine, 0, 63)) {
            return NONE;
        }
        if (!isWhole(p)) {
            return STATE;
        }
        latest = new Run(programs.get(p), input, machine);
        return latest.steps;
    }

    int told(int what) {
        if (latest == null || !in(what, 0, 13)) {
            return NO_VALUE;
        }
        if (what < 12) {
            return what < 4 ? latest.answer(0, what) : latest.answer(2, what - 4);
        }
        return (what == 12 ? latest.spent : latest.rows[0] == latest.rows[1]) ? 1 : 0;
    }

    int done(int line) {
        return latest == null || !in(line, 0, latest.done.length - 1) ? NONE : latest.done[line];
    }

    int question(int p, int input, int kind, int what) {
        if (noProgram(p) || !in(input, 0, 9) || !in(kind, 0, 2)) {
            return NONE;
        }
        int[] greatest = {3, programs.get(p).size() - 1, 7};
        if (!in(what, 0, greatest[kind])) {
            return NONE;
        }
        if (!isWhole(p) || new Run(programs.get(p), input, 0).spent) {
            return STATE;
        }
        if (questions.size() == 60) {
            return FULL;
        }
        questions.add(new Asked(p, input, kind, what));
        return questions.size() - 1;
    }

    private int answerBy(int q, int machine) {
        Asked a = questions.get(q);
        return new Run(programs.get(a.program), a.input, machine).answer(a.kind, a.what);
    }

    int answer(int q, int machine) {
        return noQuestion(q) || !in(machine, 0, 63) ? NO_VALUE : answerBy(q, machine);
    }

    int choices(int q, int n) {
        if (noQuestion(q) || !in(n, 2, 6)) {
            return NONE;
        }
        List<int[]> list = new ArrayList<>();
        Set<Integer> values = new HashSet<>();
        for (int machine : new int[] {0, 1, 2, 4, 8, 16, 32}) {
            int value = answerBy(q, machine);
            if (list.size() < n && values.add(value)) {
                list.add(new int[] {value, machine});
            }
        }
        if (list.size() < n) {
            return STATE;
        }
        latestChoices = list;
        return n;
    }

    int choice(int i, int what) {
        return in(i, 0, latestChoices.size() - 1) && in(what, 0, 1) ? latestChoices.get(i)[what] : NO_VALUE;
    }

    int gap(int p, int line) {
        if (noProgram(p) || !in(line, 0, programs.get(p).size() - 1)) {
            return NONE;
        }
        if (!isWhole(p) || programs.get(p).get(line).op != 0) {
            return STATE;
        }
        latestFillings = new ArrayList<>();
        for (int y = -9; y <= 9; y++) {
            List<Line> filled = new ArrayList<>(programs.get(p));
            filled.set(line, new Line(0, filled.get(line).x, y));
            if (firstUnlike(filled, programs.get(p), true) == 10) {
                latestFillings.add(y);
            }
        }
        return latestFillings.size();
    }

    private int firstUnlike(List<Line> one, List<Line> other, boolean withCells) {
        for (int input = 0; input < 10; input++) {
            if (!new Run(one, input, 0).end(withCells).equals(new Run(other, input, 0).end(withCells))) {
                return input;
            }
        }
        return 10;
    }

    int filling(int i) {
        return in(i, 0, latestFillings.size() - 1) ? latestFillings.get(i) : NO_VALUE;
    }

    int why(int q, int v) {
        if (noQuestion(q) || questions.get(q).kind != 0) {
            return NONE;
        }
        Asked a = questions.get(q);
        int bits = 0;
        for (int input = 0; input < 10; input++) {
            Run run = new Run(programs.get(a.program), input, 0);
            bits += !run.spent && run.variables[a.what] == v ? 1 << input : 0;
        }
        return bits;
    }

    int same(int p, int q) {
        if (noProgram(p) || noProgram(q)) {
            return NONE;
        }
        return isWhole(p) && isWhole(q) ? firstUnlike(programs.get(p), programs.get(q), false) : STATE;
    }

    int give(int pupil, int q, int v) {
        if (!in(pupil, 0, 9) || noQuestion(q)) {
            return NONE;
        }
        given.get(pupil).put(q, v);
        return given.get(pupil).size();
    }

    int price(int what, int v) {
        if (!in(what, 0, 6) || !in(v, 1, 99)) {
            return NONE;
        }
        int was = prices[what];
        prices[what] = v;
        return was;
    }

    int cost(int pupil, int machine) {
        if (!in(pupil, 0, 9) || !in(machine, 0, 63) || Integer.bitCount(machine) > 2) {
            return NONE;
        }
        int cost = 0;
        for (int slip = 0; slip < 6; slip++) {
            cost += (machine & 1 << slip) != 0 ? prices[slip] : 0;
        }
        for (Map.Entry<Integer, Integer> answer : given.get(pupil).entrySet()) {
            cost += answerBy(answer.getKey(), machine) == answer.getValue() ? 0 : prices[6];
        }
        return cost;
    }

    private List<Integer> setsOf(int pupil) {
        TreeMap<Integer, List<Integer>> byCost = new TreeMap<>();
        for (int machine = 0; machine < 64; machine++) {
            int cost = cost(pupil, machine);
            if (cost != NONE) {
                byCost.computeIfAbsent(cost, c -> new ArrayList<>()).add(machine);
            }
        }
        return byCost.firstEntry().getValue();
    }

    int sets(int pupil) {
        return in(pupil, 0, 9) ? setsOf(pupil).size() : NONE;
    }

    int set(int pupil, int i) {
        if (!in(pupil, 0, 9)) {
            return NONE;
        }
        List<Integer> sets = setsOf(pupil);
        return in(i, 0, sets.size() - 1) ? sets.get(i) : NONE;
    }

    int next(int pupil) {
        if (!in(pupil, 0, 9)) {
            return NONE;
        }
        List<Integer> sets = setsOf(pupil);
        TreeMap<Integer, TreeSet<Integer>> byGreatest = new TreeMap<>();
        for (int q = 0; q < questions.size(); q++) {
            if (!given.get(pupil).containsKey(q)) {
                Map<Integer, Integer> groups = new HashMap<>();
                for (int machine : sets) {
                    groups.merge(answerBy(q, machine), 1, Integer::sum);
                }
                int greatest = groups.values().stream().mapToInt(n -> n).max().orElseThrow();
                byGreatest.computeIfAbsent(greatest, g -> new TreeSet<>()).add(q);
            }
        }
        return byGreatest.isEmpty() ? -5 : byGreatest.firstEntry().getValue().first();
    }

    int parting() {
        int n = Math.min(12, questions.size());
        int[][] answers = new int[7][n];
        for (int m = 0; m < 7; m++) {
            for (int q = 0; q < n; q++) {
                answers[m][q] = answerBy(q, 1 << m >> 1);
            }
        }
        int fewest = 99;
        for (int chosen = 0; chosen < 1 << n; chosen++) {
            Set<List<Integer>> seen = new HashSet<>();
            for (int m = 0; m < 7; m++) {
                List<Integer> told = new ArrayList<>();
                for (int q = 0; q < n; q++) {
                    told.add((chosen & 1 << q) != 0 ? answers[m][q] : 0);
                }
                seen.add(told);
            }
            if (seen.size() == 7) {
                fewest = Math.min(fewest, Integer.bitCount(chosen));
            }
        }
        return fewest == 99 ? -5 : fewest;
    }

    int count(int what) {
        return what == 0 ? programs.size() : what == 1 ? questions.size()
                : what == 2 ? programs.stream().mapToInt(List::size).sum() : NONE;
    }
}
