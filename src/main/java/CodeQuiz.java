import java.util.Arrays;

/** A desk that makes questions about small programs and finds a pupil's slips from what was answered. */
public final class CodeQuiz {
    public static final int NONE = -1, FULL = -2, STATE = -3, NO_VALUE = -2000000000;

    private static final int NOTHING_LEFT = -5;
    private static final int PROGRAM_LIMIT = 10, LINE_LIMIT = 20, QUESTION_LIMIT = 60, PUPIL_LIMIT = 10;
    private static final int INPUT_LIMIT = 10, MACHINE_LIMIT = 64, STEP_LIMIT = 300, BITS = 64;
    private static final int VARIABLES = 4, NAMES = 2, ROW_CELLS = 4, CELLS = NAMES * ROW_CELLS;

    private static final int SET = 0, COPY = 1, ADD = 2, SUB = 3, LOOP = 4, LESS = 5, END = 6, PUT = 7, GET = 8,
            SHARE = 9;
    private static final int SET_LIMIT = 99;

    private static final int TRUE_MACHINE = 0, SLIPS = 6, SLIPS_AT_ONCE = 2;
    private static final int SLIP_SHARE = 1, SLIP_LOOP = 2, SLIP_COPY = 4, SLIP_LESS = 8, SLIP_SUB = 16, SLIP_GET = 32;

    private static final int KIND_VALUE = 0, KIND_LINE = 1, KIND_CELL = 2;
    private static final int FEWEST_CHOICES = 2, MOST_CHOICES = 6, FILLING_LIMIT = 9;
    private static final int SLIP_PRICE = 3, GUESS_PRICE = 5, PRICE_LIMIT = 99, GUESS = SLIPS;
    private static final int ABOVE_ANY_COST = 1000000;
    private static final int SINGLES = SLIPS + 1, PARTING_QUESTIONS = 12;
    private static final int ALL_PAIRS = (1 << (SINGLES * (SINGLES - 1) / 2)) - 1;

    private final Program[] programs = new Program[PROGRAM_LIMIT];
    private final Question[] questions = new Question[QUESTION_LIMIT];
    private final Pupil[] pupils = new Pupil[PUPIL_LIMIT];
    private final int[] prices = new int[SLIPS + 1];
    /** Kept for told() and done(), so no other call may run on it. */
    private final Machine latest = new Machine();
    private final Machine first = new Machine();
    private final Machine second = new Machine();
    private final int[] choiceValues = new int[SINGLES];
    private final int[] choiceSlips = new int[SINGLES];
    private final int[] setAnswers = new int[MACHINE_LIMIT];
    private final int[] partedPairs = new int[PARTING_QUESTIONS];
    private int programCount;
    private int questionCount;
    private int lineCount;
    private boolean hasRun;
    private int latestChoicesQuestion;
    private int latestChoicesCount;
    /** Bit k stands for the filling k - FILLING_LIMIT. */
    private long latestFillings;

    public CodeQuiz() {
        for (int i = 0; i < PUPIL_LIMIT; i++) {
            pupils[i] = new Pupil();
        }
        Arrays.fill(prices, SLIP_PRICE);
        prices[GUESS] = GUESS_PRICE;
    }

    public int program() {
        if (programCount >= PROGRAM_LIMIT) {
            return FULL;
        }
        programs[programCount] = new Program();
        return programCount++;
    }

    public int line(int p, int op, int x, int y) {
        Program program = programAt(p);
        if (program == null || !fitsOp(op, x, y)) {
            return NONE;
        }
        if (program.asked || (op == END && program.isWhole())) {
            return STATE;
        }
        if (program.size >= LINE_LIMIT) {
            return FULL;
        }
        lineCount++;
        return program.append(op, x, y);
    }

    public int about(int p, int line, int what) {
        Program program = programAt(p);
        if (program == null || !program.hasLine(line)) {
            return NO_VALUE;
        }
        switch (what) {
            case 0:
                return program.ops[line];
            case 1:
                return program.xs[line];
            case 2:
                return program.ys[line];
            case 3:
                return program.depths[line];
            default:
                return NO_VALUE;
        }
    }

    public int whole(int p) {
        Program program = programAt(p);
        if (program == null) {
            return NONE;
        }
        return program.isWhole() ? 1 : 0;
    }

    public int run(int p, int input, int machine) {
        Program program = programAt(p);
        if (program == null || !isInput(input) || !isMachine(machine)) {
            return NONE;
        }
        if (!program.isWhole()) {
            return STATE;
        }
        latest.perform(program, input, machine);
        hasRun = true;
        return latest.steps;
    }

    public int told(int what) {
        if (!hasRun || what < 0) {
            return NO_VALUE;
        }
        if (what < VARIABLES) {
            return latest.variables[what];
        }
        if (what < VARIABLES + CELLS) {
            return latest.cellOf(what - VARIABLES);
        }
        if (what == VARIABLES + CELLS) {
            return latest.spent ? 1 : 0;
        }
        if (what == VARIABLES + CELLS + 1) {
            return latest.namesShare() ? 1 : 0;
        }
        return NO_VALUE;
    }

    public int done(int line) {
        // Before any run() the machine knows of no lines.
        if (line < 0 || line >= latest.linesKnown) {
            return NONE;
        }
        return latest.timesDone[line];
    }

    public int question(int p, int input, int kind, int what) {
        Program program = programAt(p);
        if (program == null || !isInput(input) || !isAskable(program, kind, what)) {
            return NONE;
        }
        if (!program.isWhole()) {
            return STATE;
        }
        first.perform(program, input, TRUE_MACHINE);
        if (first.spent) {
            return STATE;
        }
        if (questionCount >= QUESTION_LIMIT) {
            return FULL;
        }
        program.asked = true;
        questions[questionCount] = new Question(program, input, kind, what);
        return questionCount++;
    }

    public int answer(int q, int machine) {
        Question asked = questionAt(q);
        if (asked == null || !isMachine(machine)) {
            return NO_VALUE;
        }
        return answerBy(asked, machine);
    }

    public int choices(int q, int n) {
        Question asked = questionAt(q);
        if (asked == null || n < FEWEST_CHOICES || n > MOST_CHOICES) {
            return NONE;
        }
        if (listChoices(asked) < n) {
            return STATE;
        }
        latestChoicesQuestion = q;
        latestChoicesCount = n;
        return n;
    }

    public int choice(int i, int what) {
        Question asked = questionAt(latestChoicesQuestion);
        if (asked == null || i < 0 || i >= latestChoicesCount) {
            return NO_VALUE;
        }
        // Listed anew, for a refused choices() has used the rows since; a question's choices never change.
        listChoices(asked);
        switch (what) {
            case 0:
                return choiceValues[i];
            case 1:
                return choiceSlips[i];
            default:
                return NO_VALUE;
        }
    }

    public int gap(int p, int line) {
        Program program = programAt(p);
        if (program == null || !program.hasLine(line)) {
            return NONE;
        }
        if (!program.isWhole() || program.ops[line] != SET) {
            return STATE;
        }
        latestFillings = findFillings(program, line);
        return Long.bitCount(latestFillings);
    }

    public int filling(int i) {
        int bit = bitAt(latestFillings, i);
        return bit < 0 ? NO_VALUE : bit - FILLING_LIMIT;
    }

    public int why(int q, int v) {
        Question asked = questionAt(q);
        if (asked == null || asked.kind != KIND_VALUE) {
            return NONE;
        }
        int inputs = 0;
        for (int input = 0; input < INPUT_LIMIT; input++) {
            first.perform(asked.program, input, TRUE_MACHINE);
            if (!first.spent && first.variables[asked.what] == v) {
                inputs |= 1 << input;
            }
        }
        return inputs;
    }

    public int same(int p, int q) {
        Program one = programAt(p);
        Program other = programAt(q);
        if (one == null || other == null) {
            return NONE;
        }
        if (!one.isWhole() || !other.isWhole()) {
            return STATE;
        }
        for (int input = 0; input < INPUT_LIMIT; input++) {
            first.perform(one, input, TRUE_MACHINE);
            second.perform(other, input, TRUE_MACHINE);
            if (!first.endsWithVariablesOf(second)) {
                return input;
            }
        }
        return INPUT_LIMIT;
    }

    public int give(int pupil, int q, int v) {
        if (!isPupil(pupil) || questionAt(q) == null) {
            return NONE;
        }
        return pupils[pupil].note(q, v);
    }

    public int price(int what, int v) {
        if (what < 0 || what > GUESS || v < 1 || v > PRICE_LIMIT) {
            return NONE;
        }
        int before = prices[what];
        prices[what] = v;
        return before;
    }

    public int cost(int pupil, int machine) {
        if (!isPupil(pupil) || !isMachine(machine) || Integer.bitCount(machine) > SLIPS_AT_ONCE) {
            return NONE;
        }
        return costOf(pupils[pupil], machine);
    }

    public int sets(int pupil) {
        if (!isPupil(pupil)) {
            return NONE;
        }
        return Long.bitCount(findSets(pupils[pupil]));
    }

    public int set(int pupil, int i) {
        if (!isPupil(pupil)) {
            return NONE;
        }
        int machine = bitAt(findSets(pupils[pupil]), i);
        return machine < 0 ? NONE : machine;
    }

    public int next(int pupil) {
        if (!isPupil(pupil)) {
            return NONE;
        }
        long sets = findSets(pupils[pupil]);
        int best = NOTHING_LEFT;
        int least = MACHINE_LIMIT + 1;
        for (int q = 0; q < questionCount; q++) {
            if (!pupils[pupil].hasAnswered(q)) {
                int most = mostAlike(listSetAnswers(questions[q], sets));
                if (most < least) {
                    least = most;
                    best = q;
                }
            }
        }
        return best;
    }

    public int parting() {
        int n = Math.min(questionCount, PARTING_QUESTIONS);
        for (int q = 0; q < n; q++) {
            partedPairs[q] = pairsParted(questions[q]);
        }
        int all = (1 << n) - 1;
        if (!partsAll(all)) {
            return NOTHING_LEFT;
        }
        int fewest = n;
        for (int chosen = 1; chosen < all; chosen++) {
            if (Integer.bitCount(chosen) < fewest && partsAll(chosen)) {
                fewest = Integer.bitCount(chosen);
            }
        }
        return fewest;
    }

    public int count(int what) {
        switch (what) {
            case 0:
                return programCount;
            case 1:
                return questionCount;
            case 2:
                return lineCount;
            default:
                return NONE;
        }
    }

    private Program programAt(int p) {
        return p >= 0 && p < programCount ? programs[p] : null;
    }

    private Question questionAt(int q) {
        return q >= 0 && q < questionCount ? questions[q] : null;
    }

    private static boolean isPupil(int pupil) {
        return pupil >= 0 && pupil < PUPIL_LIMIT;
    }

    private static boolean isInput(int input) {
        return input >= 0 && input < INPUT_LIMIT;
    }

    private static boolean isMachine(int machine) {
        return machine >= 0 && machine < MACHINE_LIMIT;
    }

    private static boolean isVariable(int x) {
        return x >= 0 && x < VARIABLES;
    }

    private static boolean isCell(int x) {
        return x >= 0 && x < CELLS;
    }

    private static boolean isName(int x) {
        return x >= 0 && x < NAMES;
    }

    private static boolean fitsOp(int op, int x, int y) {
        switch (op) {
            case SET:
                return isVariable(x) && y >= -SET_LIMIT && y <= SET_LIMIT;
            case COPY:
            case ADD:
            case SUB:
            case LESS:
                return isVariable(x) && isVariable(y);
            case LOOP:
                return isVariable(x) && y == 0;
            case END:
                return x == 0 && y == 0;
            case PUT:
                return isCell(x) && isVariable(y);
            case GET:
                return isVariable(x) && isCell(y);
            case SHARE:
                return isName(x) && isName(y);
            default:
                return false;
        }
    }

    private static boolean isAskable(Program program, int kind, int what) {
        switch (kind) {
            case KIND_VALUE:
                return isVariable(what);
            case KIND_LINE:
                return program.hasLine(what);
            case KIND_CELL:
                return isCell(what);
            default:
                return false;
        }
    }

    /** Kept with the question: its program takes no more lines, so the answer stays. */
    private int answerBy(Question asked, int machine) {
        if (!asked.knows(machine)) {
            first.perform(asked.program, asked.input, machine);
            asked.keep(machine, first.answerTo(asked.kind, asked.what));
        }
        return asked.answers[machine];
    }

    /** Lists all choices, however many are asked for: the first n of them are the choices of n. */
    private int listChoices(Question asked) {
        int listed = 0;
        for (int i = 0; i < SINGLES; i++) {
            int value = answerBy(asked, singleMachine(i));
            if (!isListed(value, listed)) {
                choiceValues[listed] = value;
                choiceSlips[listed] = singleMachine(i);
                listed++;
            }
        }
        return listed;
    }

    private boolean isListed(int value, int listed) {
        for (int i = 0; i < listed; i++) {
            if (choiceValues[i] == value) {
                return true;
            }
        }
        return false;
    }

    /** The seven machines with at most one slip: the true one first, then the lesser bit first. */
    private static int singleMachine(int i) {
        return i == 0 ? TRUE_MACHINE : 1 << (i - 1);
    }

    private long findFillings(Program program, int line) {
        long left = (1L << (2 * FILLING_LIMIT + 1)) - 1;
        for (int input = 0; input < INPUT_LIMIT; input++) {
            first.perform(program, input, TRUE_MACHINE);
            // A line that is never come to does the same with every number.
            if (first.timesDone[line] > 0) {
                left = fillingsThatEndAlike(program, line, input, left);
            }
        }
        return left;
    }

    private long fillingsThatEndAlike(Program program, int line, int input, long candidates) {
        int own = program.ys[line];
        long left = candidates;
        for (int bit = 0; bit <= 2 * FILLING_LIMIT; bit++) {
            if (hasBit(left, bit)) {
                program.ys[line] = bit - FILLING_LIMIT;
                second.perform(program, input, TRUE_MACHINE);
                if (!second.endsLike(first)) {
                    left &= ~(1L << bit);
                }
            }
        }
        program.ys[line] = own;
        return left;
    }

    private int costOf(Pupil pupil, int machine) {
        int sum = 0;
        for (int slip = 0; slip < SLIPS; slip++) {
            if (hasBit(machine, slip)) {
                sum += prices[slip];
            }
        }
        for (int q = 0; q < questionCount; q++) {
            if (pupil.hasAnswered(q) && pupil.values[q] != answerBy(questions[q], machine)) {
                sum += prices[GUESS];
            }
        }
        return sum;
    }

    /** The machines of the least cost, as bits. */
    private long findSets(Pupil pupil) {
        long sets = 0;
        int least = ABOVE_ANY_COST;
        for (int machine = 0; machine < MACHINE_LIMIT; machine++) {
            if (Integer.bitCount(machine) <= SLIPS_AT_ONCE) {
                int itsCost = costOf(pupil, machine);
                if (itsCost < least) {
                    least = itsCost;
                    sets = 0;
                }
                if (itsCost == least) {
                    sets |= 1L << machine;
                }
            }
        }
        return sets;
    }

    private int listSetAnswers(Question asked, long sets) {
        int listed = 0;
        for (int machine = 0; machine < MACHINE_LIMIT; machine++) {
            if (hasBit(sets, machine)) {
                setAnswers[listed] = answerBy(asked, machine);
                listed++;
            }
        }
        return listed;
    }

    /** The greatest number of listed set answers that are one and the same. */
    private int mostAlike(int listed) {
        int most = 0;
        for (int i = 0; i < listed; i++) {
            int alike = 0;
            for (int j = 0; j < listed; j++) {
                if (setAnswers[i] == setAnswers[j]) {
                    alike++;
                }
            }
            most = Math.max(most, alike);
        }
        return most;
    }

    /** A bit for each two of the seven machines, set if they answer the question unlike. */
    private int pairsParted(Question asked) {
        int parted = 0;
        int pair = 0;
        for (int i = 1; i < SINGLES; i++) {
            for (int j = 0; j < i; j++) {
                if (answerBy(asked, singleMachine(i)) != answerBy(asked, singleMachine(j))) {
                    parted |= 1 << pair;
                }
                pair++;
            }
        }
        return parted;
    }

    private boolean partsAll(int chosen) {
        int parted = 0;
        for (int q = 0; q < PARTING_QUESTIONS; q++) {
            if (hasBit(chosen, q)) {
                parted |= partedPairs[q];
            }
        }
        return parted == ALL_PAIRS;
    }

    private static boolean hasBit(long bits, int bit) {
        return ((bits >> bit) & 1) != 0;
    }

    /** The place of the i-th set bit, from the lowest on; NONE if there are not so many. */
    private static int bitAt(long bits, int i) {
        int seen = 0;
        for (int bit = 0; bit < BITS; bit++) {
            if (hasBit(bits, bit)) {
                if (seen == i) {
                    return bit;
                }
                seen++;
            }
        }
        return NONE;
    }

    /** Holds only lines that fitsOp() let through, so what stands in them can be used as an index. */
    private static final class Program {
        private final int[] ops = new int[LINE_LIMIT];
        private final int[] xs = new int[LINE_LIMIT];
        private final int[] ys = new int[LINE_LIMIT];
        /** How many LOOPs and LESSes are open ahead of a line. */
        private final int[] depths = new int[LINE_LIMIT];
        /** Of a LOOP or LESS its END, of an END its LOOP or LESS. */
        private final int[] mates = new int[LINE_LIMIT];
        private final int[] openLines = new int[LINE_LIMIT];
        private int openCount;
        private int size;
        private boolean asked;

        private boolean hasLine(int line) {
            return line >= 0 && line < size;
        }

        private boolean isWhole() {
            return openCount == 0;
        }

        private int append(int op, int x, int y) {
            if (size >= LINE_LIMIT) {
                return FULL;
            }
            ops[size] = op;
            xs[size] = x;
            ys[size] = y;
            depths[size] = openCount;
            if (op == LOOP || op == LESS) {
                openLines[openCount] = size;
                openCount++;
            } else if (op == END && openCount > 0) {
                openCount--;
                mates[size] = openLines[openCount];
                mates[openLines[openCount]] = size;
            }
            return size++;
        }
    }

    /** Does the runs of whole programs, and keeps how the latest one ended. */
    private static final class Machine {
        private final int[] variables = new int[VARIABLES];
        private final int[] cells = new int[CELLS];
        /** The first cell of the row for which a name stands. */
        private final int[] rowStarts = new int[NAMES];
        private final int[] timesDone = new int[LINE_LIMIT];
        /** Longs, for a slip makes one round more than the greatest int. */
        private final long[] roundsLeft = new long[LINE_LIMIT];
        private int slips;
        private int linesKnown;
        private int steps;
        private boolean spent;

        private void perform(Program program, int input, int withSlips) {
            begin(input);
            slips = withSlips;
            linesKnown = program.size;
            int at = 0;
            for (steps = 0; steps < STEP_LIMIT && at < linesKnown; steps++) {
                timesDone[at]++;
                at = doLine(program, at);
            }
            spent = at < linesKnown;
        }

        private void begin(int input) {
            Arrays.fill(variables, 0);
            variables[0] = input;
            Arrays.fill(cells, 0);
            rowStarts[0] = 0;
            rowStarts[1] = ROW_CELLS;
            Arrays.fill(timesDone, 0);
        }

        private boolean has(int slip) {
            return (slips & slip) != 0;
        }

        /** Answers the line that comes next. */
        private int doLine(Program program, int at) {
            int x = program.xs[at];
            int y = program.ys[at];
            switch (program.ops[at]) {
                case SET:
                    variables[x] = y;
                    break;
                case COPY:
                    if (has(SLIP_COPY)) {
                        variables[y] = variables[x];
                    } else {
                        variables[x] = variables[y];
                    }
                    break;
                case ADD:
                    variables[x] += variables[y];
                    break;
                case SUB:
                    variables[x] = has(SLIP_SUB) ? variables[y] - variables[x] : variables[x] - variables[y];
                    break;
                case LOOP:
                    return enterLoop(at, x, has(SLIP_LOOP)) ? at + 1 : program.mates[at] + 1;
                case LESS:
                    return isLess(x, y, has(SLIP_LESS)) ? at + 1 : program.mates[at] + 1;
                case END:
                    return goesRound(program, at) ? program.mates[at] + 1 : at + 1;
                case PUT:
                    cells[placeOf(x, 0)] = variables[y];
                    break;
                case GET:
                    variables[x] = cells[placeOf(y, has(SLIP_GET) ? 1 : 0)];
                    break;
                default:
                    doShare(x, y, has(SLIP_SHARE));
                    break;
            }
            return at + 1;
        }

        private boolean enterLoop(int at, int x, boolean onceMore) {
            if (variables[x] <= 0) {
                return false;
            }
            roundsLeft[at] = (long) variables[x] + (onceMore ? 1 : 0);
            return true;
        }

        private boolean isLess(int x, int y, boolean orAlike) {
            return variables[x] < variables[y] || (orAlike && variables[x] == variables[y]);
        }

        private boolean goesRound(Program program, int at) {
            int opener = program.mates[at];
            if (program.ops[opener] != LOOP) {
                return false;
            }
            roundsLeft[opener]--;
            return roundsLeft[opener] > 0;
        }

        /** The cell that PUT and GET mean: the row by x / 4, the place by the variable x % 4. */
        private int placeOf(int x, int further) {
            return rowStarts[x / VARIABLES] + ((variables[x % VARIABLES] + further) & (ROW_CELLS - 1));
        }

        private void doShare(int x, int y, boolean asItsOwn) {
            if (asItsOwn) {
                // With this slip no two names ever share, so the row of x is its own already.
                for (int k = 0; k < ROW_CELLS; k++) {
                    cells[rowStarts[x] + k] = cells[rowStarts[y] + k];
                }
            } else {
                rowStarts[x] = rowStarts[y];
            }
        }

        /** What is 4 times a row name, and the place. */
        private int cellOf(int what) {
            return cells[rowStarts[what / ROW_CELLS] + what % ROW_CELLS];
        }

        private boolean namesShare() {
            return rowStarts[0] == rowStarts[1];
        }

        private int answerTo(int kind, int what) {
            switch (kind) {
                case KIND_VALUE:
                    return variables[what];
                case KIND_LINE:
                    return timesDone[what];
                default:
                    return cellOf(what);
            }
        }

        /** Of two that are spent nothing else counts. */
        private boolean endsWithVariablesOf(Machine other) {
            if (spent || other.spent) {
                return spent && other.spent;
            }
            for (int i = 0; i < VARIABLES; i++) {
                if (variables[i] != other.variables[i]) {
                    return false;
                }
            }
            return true;
        }

        private boolean endsLike(Machine other) {
            if (!endsWithVariablesOf(other)) {
                return false;
            }
            if (spent) {
                return true;
            }
            for (int i = 0; i < CELLS; i++) {
                if (cellOf(i) != other.cellOf(i)) {
                    return false;
                }
            }
            return true;
        }
    }

    private static final class Question {
        private final Program program;
        private final int input;
        private final int kind;
        private final int what;
        private final int[] answers = new int[MACHINE_LIMIT];
        /** The machines whose answers are kept, as bits. */
        private long known;

        private Question(Program program, int input, int kind, int what) {
            this.program = program;
            this.input = input;
            this.kind = kind;
            this.what = what;
        }

        private boolean knows(int machine) {
            return hasBit(known, machine);
        }

        private void keep(int machine, int value) {
            answers[machine] = value;
            known |= 1L << machine;
        }
    }

    private static final class Pupil {
        private final int[] values = new int[QUESTION_LIMIT];
        /** The questions that it answered, as bits. */
        private long answered;

        private boolean hasAnswered(int q) {
            return hasBit(answered, q);
        }

        /** Answers how many questions it has answered now. */
        private int note(int q, int value) {
            values[q] = value;
            answered |= 1L << q;
            return Long.bitCount(answered);
        }
    }
}
