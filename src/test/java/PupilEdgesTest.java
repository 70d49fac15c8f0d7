/** The boundary cases of promises 17 to 24; each test bears the number of its promise. */
public final class PupilEdgesTest extends Desks {
    private static final int VALUE = 0, LINE = 1, CELL = 2;
    private static final int GUESS = 6;
    /** All masks with at most two slips, rising. */
    private static final int[] AT_MOST_TWO = {0, 1, 2, 3, 4, 5, 6, 8, 9, 10, 12, 16, 17, 18, 20, 24, 32, 33, 34, 36,
        40, 48};

    public static void main(String[] args) throws IllegalAccessException {
        runAll(PupilEdgesTest.class, 17, 24);
    }

    private static void allPrices(CodeQuiz desk, int price) {
        for (int what = 0; what <= GUESS; what++) {
            desk.price(what, price);
        }
    }

    /** Pupil 0 answered each of six questions as one slip does: each machine costs 6, by slips or by guesses. */
    private static CodeQuiz allCostTheSame(int... moreQuestions) {
        CodeQuiz desk = slipByQuestion(join(new int[] {0, 1, 2, 3, 4, 5}, moreQuestions));
        allPrices(desk, 1);
        for (int q = 0; q < 6; q++) {
            due.is("give", desk.give(0, q, desk.answer(q, 1 << q)), q + 1);
        }
        return desk;
    }

    // ---- 17 give

    static void promise17_boundsOfPupil() {
        CodeQuiz desk = plainQuestions(1);
        due.is("the first", desk.give(0, 0, 0), 1);
        due.is("the last", desk.give(9, 0, 0), 1);
        outside("pupil", pupil -> desk.give(pupil, 0, 0), 0, 9, NONE);
    }

    static void promise17_boundsOfQuestion() {
        CodeQuiz desk = plainQuestions(2);
        due.is("the first", desk.give(0, 0, 0), 1);
        due.is("the last", desk.give(0, 1, 0), 2);
        outside("question", q -> desk.give(0, q, 0), 0, 1, NONE);
        due.is("one that there may be later", desk.give(0, 59, 0), NONE);
    }

    static void promise17_noQuestion() {
        due.is("a program alone", desk(SET, 0, 0).give(0, 0, 0), NONE);
    }

    static void promise17_everyValueIsAnAnswer() {
        CodeQuiz desk = plainQuestions(6);
        int[] values = {MIN, MAX, NO_VALUE, NONE, STATE, FULL};
        for (int q = 0; q < values.length; q++) {
            due.is("value " + values[q], desk.give(0, q, values[q]), q + 1);
        }
        due.is("all of them are guesses", desk.cost(0, 0), 30);
    }

    static void promise17_aLaterOneInItsPlace() {
        CodeQuiz desk = plainQuestions(2);
        due.is("wrong", desk.give(0, 0, 7), 1);
        due.is("cost", desk.cost(0, 0), 5);
        due.is("right", desk.give(0, 0, 0), 1);
        due.is("cost", desk.cost(0, 0), 0);
        due.is("another question", desk.give(0, 1, 0), 2);
        due.is("wrong again", desk.give(0, 0, 7), 2);
        due.is("cost", desk.cost(0, 0), 5);
    }

    static void promise17_eachPupilHasItsOwn() {
        CodeQuiz desk = plainQuestions(2);
        for (int pupil = 0; pupil < 10; pupil++) {
            due.is("pupil " + pupil, desk.give(pupil, 0, pupil), 1);
        }
        for (int pupil = 0; pupil < 10; pupil++) {
            due.is("pupil " + pupil, desk.cost(pupil, 0), pupil == 0 ? 0 : 5);
        }
    }

    static void promise17_allSixty() {
        CodeQuiz desk = plainQuestions(60);
        for (int q = 59; q >= 0; q--) {
            due.is("give", desk.give(4, q, 0), 60 - q);
        }
        due.is("in its place", desk.give(4, 59, 1), 60);
        due.is("none more", desk.give(4, 60, 0), NONE);
    }

    static void promise17_refusedChangesNothing() {
        refused("give by no pupil", desk -> desk.give(10, 0, 9), NONE);
        refused("give by no pupil", desk -> desk.give(-1, 0, 9), NONE);
        refused("give to no question", desk -> desk.give(0, 3, 9), NONE);
    }

    // ---- 18 price

    static void promise18_boundsOfWhat() {
        CodeQuiz desk = new CodeQuiz();
        due.is("the first slip", desk.price(0, 8), 3);
        due.is("the last slip", desk.price(5, 8), 3);
        due.is("a guess", desk.price(GUESS, 8), 5);
        outside("what", what -> desk.price(what, 8), 0, GUESS, NONE);
    }

    static void promise18_boundsOfV() {
        for (int what = 0; what <= GUESS; what++) {
            CodeQuiz desk = new CodeQuiz();
            int it = what;
            due.is("to the least", desk.price(what, 1), what == GUESS ? 5 : 3);
            due.is("to the greatest", desk.price(what, 99), 1);
            outside("v", v -> desk.price(it, v), 1, 99, NONE);
            due.is("what it was", desk.price(what, 50), 99);
        }
    }

    static void promise18_atFirst() {
        CodeQuiz desk = new CodeQuiz();
        for (int what = 0; what < 6; what++) {
            due.is("slip", desk.price(what, 3), 3);
        }
        due.is("guess", desk.price(GUESS, 5), 5);
    }

    static void promise18_byItsBit() {
        for (int slip = 0; slip < 6; slip++) {
            CodeQuiz desk = new CodeQuiz();
            desk.price(slip, 99);
            for (int other = 0; other < 6; other++) {
                due.is("cost of slip " + other, desk.cost(0, 1 << other), other == slip ? 99 : 3);
            }
        }
    }

    static void promise18_refusedChangesNothing() {
        refused("price of 0", desk -> desk.price(1, 0), NONE);
        refused("price of 100", desk -> desk.price(6, 100), NONE);
        refused("price of nothing", desk -> desk.price(7, 1), NONE);
        refused("price of nothing", desk -> desk.price(-1, 1), NONE);
    }

    // ---- 19 cost

    static void promise19_boundsOfPupil() {
        CodeQuiz desk = plainQuestions(1);
        desk.give(9, 0, 1);
        due.is("the first", desk.cost(0, 0), 0);
        due.is("the last", desk.cost(9, 0), 5);
        outside("pupil", pupil -> desk.cost(pupil, 0), 0, 9, NONE);
    }

    static void promise19_boundsOfMachine() {
        CodeQuiz desk = new CodeQuiz();
        due.is("the least", desk.cost(0, 0), 0);
        due.is("the greatest with two slips", desk.cost(0, 48), 6);
        outside("machine", machine -> desk.cost(0, machine), 0, 63, NONE);
        due.is("two bits, but no machine", desk.cost(0, 65), NONE);
    }

    static void promise19_atMostTwoSlips() {
        CodeQuiz desk = new CodeQuiz();
        for (int machine = 0; machine < 64; machine++) {
            int slips = Integer.bitCount(machine);
            due.is("machine " + machine, desk.cost(0, machine), slips > 2 ? NONE : 3 * slips);
        }
    }

    static void promise19_noAnswerGiven() {
        CodeQuiz desk = plainQuestions(3);
        due.is("none", desk.cost(0, 0), 0);
        due.is("one", desk.cost(0, 32), 3);
        due.is("two", desk.cost(0, 33), 6);
    }

    static void promise19_theDearest() {
        CodeQuiz desk = plainQuestions(60);
        allPrices(desk, 99);
        for (int q = 0; q < 60; q++) {
            desk.give(0, q, 1);
            desk.give(1, q, 0);
        }
        due.is("60 guesses, two slips", desk.cost(0, 48), 60 * 99 + 2 * 99);
        due.is("60 guesses", desk.cost(0, 0), 60 * 99);
        due.is("no guess, two slips", desk.cost(1, 3), 2 * 99);
    }

    static void promise19_theCheapest() {
        CodeQuiz desk = plainQuestions(1);
        allPrices(desk, 1);
        desk.give(0, 0, 1);
        due.is("a guess", desk.cost(0, 0), 1);
        due.is("a guess, a slip", desk.cost(0, 1), 2);
        due.is("a guess, two slips", desk.cost(0, 3), 3);
    }

    static void promise19_answersThatLookLikeRefusals() {
        CodeQuiz desk = desk(SET, 1, -1, SET, 2, -3);
        desk.question(0, 0, VALUE, 1);
        desk.question(0, 0, VALUE, 2);
        desk.give(0, 0, NONE);
        desk.give(0, 1, STATE);
        due.is("right", desk.cost(0, 0), 0);
        desk.give(0, 1, NO_VALUE);
        due.is("one is wrong", desk.cost(0, 0), 5);
    }

    static void promise19_answersAtTheEndsOfTheRange() {
        CodeQuiz desk = desk(MIN_IN_1);
        desk.question(0, 0, VALUE, 1);
        desk.give(0, 0, MIN);
        due.is("right", desk.cost(0, 0), 0);
        desk.give(0, 0, MAX);
        due.is("wrong", desk.cost(0, 0), 5);
    }

    static void promise19_theAnswerOfASpentRun() {
        CodeQuiz desk = spentBySlip2();
        desk.question(0, 0, VALUE, 3);
        desk.give(0, 0, 99);
        due.is("true", desk.cost(0, 0), 5);
        due.is("spent", desk.cost(0, 2), 3);
    }

    static void promise19_refusedChangesNothing() {
        refused("cost for no pupil", desk -> desk.cost(10, 0), NONE);
        refused("cost of no machine", desk -> desk.cost(0, 64), NONE);
        refused("cost of three slips", desk -> desk.cost(0, 7), NONE);
    }

    // ---- 20 sets

    static void promise20_boundsOfPupil() {
        CodeQuiz desk = allCostTheSame();
        due.is("the first", desk.sets(0), 22);
        due.is("the last", desk.sets(9), 1);
        outside("pupil", desk::sets, 0, 9, NONE);
    }

    static void promise20_noQuestion() {
        due.is("sets", new CodeQuiz().sets(0), 1);
    }

    static void promise20_noAnswerGiven() {
        CodeQuiz desk = richDesk();
        allPrices(desk, 1);
        due.is("only the true machine is free", desk.sets(0), 1);
        due.is("the true machine", desk.set(0, 0), 0);
    }

    static void promise20_aGuessAsDearAsASlip() {
        CodeQuiz desk = richDesk();
        desk.give(0, 0, 4);
        desk.price(GUESS, 4);
        due.is("a guess is dearer", desk.sets(0), 1);
        due.is("the slip", desk.set(0, 0), 2);
        desk.price(GUESS, 3);
        due.is("as dear", desk.sets(0), 2);
        desk.price(GUESS, 2);
        due.is("a guess is cheaper", desk.sets(0), 1);
        due.is("the true machine", desk.set(0, 0), 0);
    }

    static void promise20_allOfThem() {
        due.is("sets", allCostTheSame().sets(0), 22);
    }

    static void promise20_noMachineWithThreeSlips() {
        CodeQuiz desk = allCostTheSame();
        desk.price(GUESS, 99);
        due.is("the pairs", desk.sets(0), 15);
        for (int i = 0; i < 15; i++) {
            due.is("slips", Integer.bitCount(desk.set(0, i)), 2);
        }
    }

    static void promise20_allQuestionsAnswered() {
        CodeQuiz desk = plainQuestions(60);
        for (int q = 0; q < 60; q++) {
            desk.give(0, q, 1);
        }
        allPrices(desk, 99);
        due.is("no slip gives it", desk.sets(0), 1);
    }

    static void promise20_refusedChangesNothing() {
        refused("sets of no pupil", desk -> desk.sets(10), NONE);
        refused("sets of no pupil", desk -> desk.sets(-1), NONE);
    }

    // ---- 21 set

    static void promise21_boundsOfPupil() {
        CodeQuiz desk = allCostTheSame();
        due.is("the first", desk.set(0, 21), 48);
        due.is("the last", desk.set(9, 0), 0);
        outside("pupil", pupil -> desk.set(pupil, 0), 0, 9, NONE);
    }

    static void promise21_boundsOfI() {
        CodeQuiz desk = allCostTheSame();
        due.is("the first", desk.set(0, 0), 0);
        due.is("the last", desk.set(0, 21), 48);
        outside("i", i -> desk.set(0, i), 0, 21, NONE);
        due.is("the only one", desk.set(1, 0), 0);
        outside("i", i -> desk.set(1, i), 0, 0, NONE);
    }

    static void promise21_masksRising() {
        CodeQuiz desk = allCostTheSame();
        for (int i = 0; i < AT_MOST_TWO.length; i++) {
            due.is("set " + i, desk.set(0, i), AT_MOST_TWO[i]);
        }
    }

    static void promise21_noQuestion() {
        CodeQuiz desk = new CodeQuiz();
        due.is("the true machine", desk.set(0, 0), 0);
        due.is("none more", desk.set(0, 1), NONE);
    }

    static void promise21_aLaterAnswerOrPriceChangesThem() {
        CodeQuiz desk = richDesk();
        desk.give(0, 0, 4);
        due.is("LOOP", desk.set(0, 0), 2);
        desk.give(0, 0, 52);
        due.is("COPY", desk.set(0, 0), 4);
        desk.price(2, 6);
        due.is("a guess", desk.set(0, 0), 0);
    }

    static void promise21_refusedChangesNothing() {
        refused("set of no pupil", desk -> desk.set(10, 0), NONE);
        refused("set of no i", desk -> desk.set(0, 22), NONE);
        refused("set of no i", desk -> desk.set(0, -1), NONE);
    }

    // ---- 22 next

    static void promise22_boundsOfPupil() {
        CodeQuiz desk = plainQuestions(2);
        desk.give(9, 0, 0);
        due.is("the first", desk.next(0), 0);
        due.is("the last", desk.next(9), 1);
        outside("pupil", desk::next, 0, 9, NONE);
    }

    static void promise22_noQuestion() {
        CodeQuiz desk = new CodeQuiz();
        due.is("none", desk.next(0), NOTHING);
        due.is("no pupil", desk.next(10), NONE);
    }

    static void promise22_noAnswerGiven() {
        due.is("the least", partsAllAt(4).next(0), 0);
    }

    static void promise22_allAnswered() {
        CodeQuiz desk = plainQuestions(2);
        desk.give(0, 1, 0);
        due.is("one is left", desk.next(0), 0);
        desk.give(0, 0, 0);
        due.is("none", desk.next(0), NOTHING);
        due.is("another pupil", desk.next(1), 0);
        due.is("no pupil", desk.next(10), NONE);
        desk.question(0, 0, VALUE, 0);
        due.is("a new one", desk.next(0), 2);
    }

    static void promise22_allSixtyAnswered() {
        CodeQuiz desk = plainQuestions(60);
        for (int q = 0; q < 59; q++) {
            desk.give(0, q, 0);
        }
        due.is("the last is left", desk.next(0), 59);
        desk.give(0, 59, 1);
        due.is("none", desk.next(0), NOTHING);
    }

    /** Questions that no slip answers wrong, and then one that parts all single slips. */
    private static CodeQuiz partsAllAt(int q) {
        CodeQuiz desk = plainQuestions(q);
        int p = add(desk, PARTS_ALL);
        due.is("question", desk.question(p, 0, VALUE, 2), q);
        return desk;
    }

    static void promise22_theLeastOfSeveral() {
        CodeQuiz desk = allCostTheSame(2, 1, 2);
        due.is("each parts 6 from the 16 others", desk.next(0), 6);
        desk.give(0, 6, desk.answer(6, 0));
        due.is("no COPY is left", desk.sets(0), 16);
        due.is("so question 8 parts nothing", desk.next(0), 7);
    }

    static void promise22_aLaterOneThatPartsBetter() {
        CodeQuiz desk = allCostTheSame(2, 1);
        int p = add(desk, PARTS_ALL);
        due.is("question", desk.question(p, 0, VALUE, 2), 8);
        due.is("next", desk.next(0), 8);
    }

    static void promise22_aQuestionThatPartsNothing() {
        CodeQuiz desk = richDesk();
        desk.price(GUESS, 3);
        desk.give(0, 0, 4);
        due.is("the true machine and LOOP", desk.sets(0), 2);
        due.is("variable 0 is 0 by all", desk.question(0, 3, VALUE, 0), 1);
        due.is("it is all there is", desk.next(0), 1);
        due.is("how often the LOOP is done", desk.question(0, 3, LINE, 2), 2);
        due.is("it parts them", desk.next(0), 2);
    }

    /** A question about a variable of a program more, by the input 0, with its answers by machines 0, 2, 4, 6. */
    private static void asks(CodeQuiz desk, int q, int variable, int[] lines, int... answers) {
        due.is("question", desk.question(add(desk, lines), 0, VALUE, variable), q);
        for (int i = 0; i < 4; i++) {
            due.is("answer to " + q + " by " + 2 * i, desk.answer(q, 2 * i), answers[i]);
        }
    }

    /** Four sets, by no slip, LOOP, COPY, both: 2 and 2 is better than 3 and 1, and as good as 2, 1 and 1. */
    static void promise22_theGreatestGroupIsLeast() {
        CodeQuiz desk = slipByQuestion(1, 2);
        desk.price(GUESS, 3);
        desk.give(0, 0, 2);
        desk.give(0, 1, 0);
        due.is("sets", desk.sets(0), 4);
        int[] loop = {SET, 1, 1, LOOP, 1, 0, ADD, 2, 1, END, 0, 0};
        asks(desk, 2, 3, join(loop, SET, 3, 1, COPY, 3, 2), 1, 2, 1, 1);
        due.is("3 and 1 is all there is", desk.next(0), 2);
        asks(desk, 3, 3, join(loop, SET, 3, 5, COPY, 3, 0), 0, 0, 5, 5);
        due.is("2 and 2", desk.next(0), 3);
        asks(desk, 4, 3, join(loop, SET, 3, 7, COPY, 3, 2), 1, 2, 7, 7);
        due.is("2, 1 and 1 is no better", desk.next(0), 3);
        asks(desk, 5, 2, join(loop, SET, 3, 5, COPY, 3, 0, ADD, 2, 3), 1, 2, 6, 7);
        due.is("all four apart", desk.next(0), 5);
    }

    static void promise22_refusedChangesNothing() {
        refused("next of no pupil", desk -> desk.next(10), NONE);
        refused("next of no pupil", desk -> desk.next(-1), NONE);
    }

    // ---- 23 parting

    static void promise23_noQuestion() {
        due.is("parting", new CodeQuiz().parting(), NOTHING);
        due.is("a program alone", desk(PARTS_ALL).parting(), NOTHING);
    }

    static void promise23_oneThatPartsAll() {
        due.is("alone", partsAllAt(0).parting(), 1);
        due.is("the last of twelve", partsAllAt(11).parting(), 1);
        CodeQuiz first = partsAllAt(0);
        first.question(0, 0, VALUE, 1);
        due.is("the first of two", first.parting(), 1);
    }

    static void promise23_thirteenthDoesNotCount() {
        due.is("the one that parts all", partsAllAt(12).parting(), NOTHING);
        due.is("the last of sixty", partsAllAt(59).parting(), NOTHING);
        due.is("a sixth slip", slipByQuestion(0, 1, 2, 3, 4, 0, 0, 0, 0, 0, 0, 0, 5).parting(), NOTHING);
    }

    static void promise23_twelfthCounts() {
        due.is("a sixth slip", slipByQuestion(0, 1, 2, 3, 4, 0, 0, 0, 0, 0, 0, 5).parting(), 6);
    }

    static void promise23_allSixAndOneTooFew() {
        due.is("six", slipByQuestion(0, 1, 2, 3, 4, 5).parting(), 6);
        due.is("six, each twice", slipByQuestion(5, 4, 3, 2, 1, 0, 0, 1, 2, 3, 4, 5).parting(), 6);
        for (int left = 0; left < 6; left++) {
            int[] slips = new int[5];
            for (int i = 0; i < 5; i++) {
                slips[i] = i < left ? i : i + 1;
            }
            due.is("without slip " + left, slipByQuestion(slips).parting(), NOTHING);
        }
    }

    /** Each is told from the true machine, but COPY and SUB are not told apart. */
    static void promise23_twoSlipsThatGiveTheSame() {
        CodeQuiz desk = slipByQuestion(0, 1, 3, 5);
        int p = add(desk, SET, 1, 2, SUB, 1, 0, SET, 0, -1, COPY, 0, 1);
        due.is("question", desk.question(p, 1, VALUE, 0), 4);
        due.is("not apart", desk.parting(), NOTHING);
        desk.question(2, 0, VALUE, 2);
        due.is("apart", desk.parting(), 6);
    }

    static void promise23_fewerThanAll() {
        CodeQuiz desk = slipByQuestion(0, 1, 2, 3, 4, 5);
        int p = add(desk, PARTS_ALL);
        desk.question(p, 0, LINE, 9);
        due.is("the LOOP's lines, no better than question 1", desk.parting(), 6);
        desk.question(p, 0, VALUE, 2);
        due.is("one", desk.parting(), 1);
    }

    // ---- 24 count

    static void promise24_boundsOfWhat() {
        CodeQuiz desk = desk(SET, 0, 0, SET, 0, 0, SET, 0, 0);
        desk.program();
        desk.question(0, 0, CELL, 0);
        due.is("the first", desk.count(0), 2);
        due.is("between", desk.count(1), 1);
        due.is("the last", desk.count(2), 3);
        outside("what", desk::count, 0, 2, NONE);
    }

    static void promise24_nothing() {
        CodeQuiz desk = new CodeQuiz();
        for (int what = 0; what < 3; what++) {
            due.is("count " + what, desk.count(what), 0);
        }
    }

    static void promise24_aProgramWithoutLines() {
        CodeQuiz desk = desk();
        due.is("programs", desk.count(0), 1);
        due.is("lines", desk.count(2), 0);
    }

    static void promise24_allThatThereCanBe() {
        CodeQuiz desk = new CodeQuiz();
        for (int p = 0; p < 10; p++) {
            due.is("programs", desk.program(), p);
            for (int line = 0; line < 20; line++) {
                due.is("line", desk.line(p, SET, 0, line), line);
            }
            due.is("one more", desk.line(p, SET, 0, 0), FULL);
        }
        for (int q = 0; q < 60; q++) {
            due.is("question", desk.question(q % 10, 0, VALUE, 0), q);
        }
        due.is("one more", desk.program(), FULL);
        due.is("one more", desk.question(0, 0, VALUE, 0), FULL);
        due.is("programs", desk.count(0), 10);
        due.is("questions", desk.count(1), 60);
        due.is("lines", desk.count(2), 200);
        due.is("the last answer", desk.answer(59, 63), 19);
    }

    static void promise24_whatIsRefusedDoesNotCount() {
        CodeQuiz desk = desk(SET, 0, 0);
        desk.line(0, SET, 0, 100);
        desk.line(0, END, 0, 0);
        desk.line(1, SET, 0, 0);
        desk.question(0, 10, VALUE, 0);
        desk.question(1, 0, VALUE, 0);
        due.is("programs", desk.count(0), 1);
        due.is("questions", desk.count(1), 0);
        due.is("lines", desk.count(2), 1);
    }

    static void promise24_refusedChangesNothing() {
        refused("count of nothing", desk -> desk.count(3), NONE);
        refused("count of nothing", desk -> desk.count(-1), NONE);
    }
}
