/** Promise 10 (run), what a RUN makes of each KIND of ACT: each sentence of the Terms that names an edge. */
public final class EdgeAskTest implements Names {
    public static void main(String[] args) {
        testMaps();
        testTests();
        testTakeAndSkip();
        testWhileSumsTurn();
        Check.end();
    }

    private static void testMaps() {
        promise10Add();
        promise10Times();
        promise10OverIsCut();
        promise10OverBy0();
        promise10PickFirstAndLast();
        promise10PickLowest32Bits();
        promise10PickMustBeInts();
        promise10FourFunctions();
        promise10MapOfNone();
    }

    private static void testTests() {
        promise10Above();
        promise10Even();
        promise10Unlike();
        promise10FourTests();
        promise10TestOfNone();
    }

    private static void testTakeAndSkip() {
        promise10TakeNone();
        promise10TakeThenNone();
        promise10TakeOfFewer();
        promise10TakeAHundred();
        promise10SkipNone();
        promise10SkipUpToNone();
        promise10SkipAll();
        promise10SkipWantsNothing();
        promise10SkipAHundred();
    }

    private static void testWhileSumsTurn() {
        promise10WhileBelow();
        promise10WhileFromThenOn();
        promise10WhileOfNone();
        promise10SumsOfTheFirst();
        promise10SumsWrap();
        promise10SumsInThisOrder();
        promise10SumsOfSums();
        promise10SumsOfNone();
        promise10TurnTheLastFirst();
        promise10TurnTheFirstTime();
        promise10TurnOfNone();
    }

    /** The value that an act with the number a makes of x. */
    private static void dueMapped(FusionRules rules, int kind, long a, long x, long value) {
        Check.make(rules, 0, x, 0, 1, kind, a);
        Check.dueValue("kind " + kind + " with " + a + " of " + x, rules, 0, SUM, value);
    }

    private static void promise10Add() {
        FusionRules x = Check.sentence(10, "0 ADD: x + a");
        dueMapped(x, ADD, 1, GREATEST, LEAST);
        dueMapped(x, ADD, -1, LEAST, GREATEST);
        dueMapped(x, ADD, LEAST, LEAST, 0);
        dueMapped(x, ADD, 0, LEAST, LEAST);
        dueMapped(x, ADD, 1, GREATEST_INT, 1L << 31);
    }

    private static void promise10Times() {
        FusionRules x = Check.sentence(10, "1 TIMES: x a");
        dueMapped(x, TIMES, 2, GREATEST, -2);
        dueMapped(x, TIMES, -1, LEAST, LEAST);
        dueMapped(x, TIMES, 0, LEAST, 0);
        dueMapped(x, TIMES, 1L << 32, 1L << 32, 0);
        dueMapped(x, TIMES, 1L << 31, 2, 1L << 32);
    }

    private static void promise10OverIsCut() {
        FusionRules x = Check.sentence(10, "2 OVER: a / x, cut");
        dueMapped(x, OVER, 7, 2, 3);
        dueMapped(x, OVER, -7, 2, -3);
        dueMapped(x, OVER, 7, -2, -3);
        dueMapped(x, OVER, -7, -2, 3);
        dueMapped(x, OVER, 1, 2, 0);
        dueMapped(x, OVER, -1, 2, 0);
        dueMapped(x, OVER, 0, 5, 0);
        dueMapped(x, OVER, LEAST, -1, LEAST);
        dueMapped(x, OVER, GREATEST, -1, -GREATEST);
        dueMapped(x, OVER, GREATEST, LEAST, 0);
    }

    private static void promise10OverBy0() {
        FusionRules x = Check.sentence(10, "4 by 0");
        for (long a : new long[] {1, 0, LEAST, GREATEST}) {
            Check.make(x, 0, 0, 0, 1, OVER, a);
            Check.dueRun(a + " over 0", x, 0, SUM, FAULT_4, 1, 2, 1, 1);
        }
        Check.make(x, 0, 1L << 32, 0, 1, OVER, 1L << 33);
        Check.dueValue("only all 64 bits tell a 0", x, 0, SUM, 2);
    }

    private static void duePicked(FusionRules rules, long x, int answer) {
        Check.make(rules, 0, x, 0, 1, PICK, 0);
        Check.dueRun("cell " + x, rules, 0, SUM, answer);
    }

    private static void promise10PickFirstAndLast() {
        FusionRules x = Check.sentence(10, "3 an index");
        Check.ints(x, 0, 5, 6, 7);
        dueMapped(x, PICK, 0, 0, 5);
        dueMapped(x, PICK, 0, 2, 7);
        duePicked(x, -1, FAULT_3);
        duePicked(x, 3, FAULT_3);
        duePicked(x, 16, FAULT_3);
        duePicked(x, GREATEST_INT, FAULT_3);
        duePicked(x, LEAST_INT, FAULT_3);
        x.row(0, INTS, 0);
        duePicked(x, 0, FAULT_3);
        x.row(0, INTS, 16);
        duePicked(x, 15, 0);
        duePicked(x, 16, FAULT_3);
    }

    private static void promise10PickLowest32Bits() {
        FusionRules x = Check.sentence(10, "cell x (its lowest 32 bits) of ROW a");
        Check.ints(x, 0, 5, 6, 7);
        dueMapped(x, PICK, 0, 1L << 32, 5);
        dueMapped(x, PICK, 0, (1L << 32) + 2, 7);
        dueMapped(x, PICK, 0, -1L << 32, 5);
        dueMapped(x, PICK, 0, LEAST + 1, 6);
        duePicked(x, (1L << 32) - 1, FAULT_3);
        duePicked(x, (1L << 32) + 3, FAULT_3);
        duePicked(x, 1L << 31, FAULT_3);
        duePicked(x, GREATEST, FAULT_3);
    }

    private static void promise10PickMustBeInts() {
        FusionRules x = Check.sentence(10, "of ROW a, which must be ints");
        duePicked(x, 0, FAULT_1);
        duePicked(x, -1, FAULT_1);
        x.row(0, BYTES, 2);
        duePicked(x, 0, FAULT_2);
        duePicked(x, 2, FAULT_2);
        x.row(0, LONGS, 2);
        duePicked(x, 0, FAULT_2);
        duePicked(x, -1, FAULT_2);
        x.row(0, LONGS, 0);
        duePicked(x, 0, FAULT_2);
        x.row(0, INTS, 2);
        duePicked(x, 0, 0);
        x.row(0, NOTHING, 2);
        duePicked(x, 0, FAULT_1);
        Check.ints(x, 5, 8);
        dueMapped(x, PICK, 5, 0, 8);
    }

    private static void promise10FourFunctions() {
        FusionRules x = Check.sentence(10, "the value is that of the last, each of what the one ahead gives");
        x.phase(0);
        Check.make(x, 0, 3, 1, 1, ADD, -1, TIMES, 10, OVER, 61, ADD, 5);
        Check.due("fuse(0)", 3, x.fuse(0));
        Check.dueValue("((3 - 1) 10), 61 over it, + 5", x, 0, SUM, 8, 1, 4, 4, 1);
        Check.make(x, 0, 3, 1, 1, ADD, -3, OVER, 61, ADD, 5, ADD, 5);
        x.fuse(0);
        Check.dueRun("none behind a fault is begun", x, 0, SUM, FAULT_4, 1, 2, 2, 1);
    }

    private static void promise10MapOfNone() {
        FusionRules x = Check.sentence(10, "none: none; else it gives a new ELEMENT");
        for (int kind = ADD; kind <= PICK; kind++) {
            Check.make(x, 0, 1, 1, 0, kind, 0);
            Check.dueRun("kind " + kind, x, 0, FIRST, OF_NONE, 0, 2, 0, 0);
            Check.dueValue("kind " + kind, x, 0, SUM, 0, 0, 2, 0, 0);
        }
    }

    /** How many of the range from, from + by, from + 2 by a test lets through. */
    private static void duePassed(FusionRules x, int kind, long a, long from, long by, int passed) {
        Check.make(x, 0, from, by, 3, kind, a);
        Check.dueValue("kind " + kind + " with " + a + " from " + from, x, 0, COUNT, passed);
    }

    private static void promise10Above() {
        FusionRules x = Check.sentence(10, "4 ABOVE: x is above a");
        duePassed(x, ABOVE, 5, 4, 1, 1);
        duePassed(x, ABOVE, 5, 5, 0, 0);
        duePassed(x, ABOVE, GREATEST, GREATEST, 0, 0);
        duePassed(x, ABOVE, LEAST, LEAST, 1, 2);
        duePassed(x, ABOVE, -1, -2, 1, 1);
        duePassed(x, ABOVE, 0, 1L << 32, 0, 3);
        duePassed(x, ABOVE, LEAST, GREATEST, 0, 3);
    }

    private static void promise10Even() {
        FusionRules x = Check.sentence(10, "5 EVEN");
        duePassed(x, EVEN, 0, 0, 0, 3);
        duePassed(x, EVEN, 0, -1, 1, 1);
        duePassed(x, EVEN, 0, -3, 2, 0);
        duePassed(x, EVEN, 0, -4, 2, 3);
        duePassed(x, EVEN, 0, LEAST, 0, 3);
        duePassed(x, EVEN, 0, GREATEST, 0, 0);
    }

    private static void promise10Unlike() {
        FusionRules x = Check.sentence(10, "6 UNLIKE: x is not a");
        duePassed(x, UNLIKE, 5, 4, 1, 2);
        duePassed(x, UNLIKE, 5, 5, 0, 0);
        duePassed(x, UNLIKE, 5, (1L << 32) + 5, 0, 3);
        duePassed(x, UNLIKE, LEAST, LEAST, -1, 2);
        duePassed(x, UNLIKE, 0, -1, 1, 2);
    }

    private static void promise10FourTests() {
        FusionRules x = Check.sentence(10, "a TEST asks them in row up to one that is not so");
        x.phase(1);
        Check.make(x, 0, 1, 1, 12, ABOVE, 2, EVEN, 0, UNLIKE, 6, UNLIKE, 12);
        Check.due("fuse(0)", 3, x.fuse(0));
        Check.dueValue("4, 8, 10", x, 0, SUM, 22, 3, 3 + 1 + 13, 0, 3);
        Check.make(x, 0, 12, 1, 1, ABOVE, 2, EVEN, 0, UNLIKE, 6, UNLIKE, 12);
        x.fuse(0);
        Check.dueValue("the fourth is not so", x, 0, COUNT, 0);
        Check.make(x, 0, 2, 1, 1, ABOVE, 2, EVEN, 0, UNLIKE, 6, UNLIKE, 12);
        x.fuse(0);
        Check.dueValue("the first is not so", x, 0, COUNT, 0);
    }

    private static void promise10TestOfNone() {
        FusionRules x = Check.sentence(10, "and gives that; none: none");
        for (int kind = ABOVE; kind <= UNLIKE; kind++) {
            Check.make(x, 0, 1, 1, 0, kind, 0);
            Check.dueRun("kind " + kind + " of none", x, 0, FIRST, OF_NONE, 0, 2, 0, 0);
        }
        Check.make(x, 0, 1, 1, 40, ABOVE, 40);
        Check.dueRun("none is so", x, 0, FIRST, OF_NONE, 0, 42, 0, 0);
        Check.make(x, 0, 1, 1, -1, ABOVE, 500);
        Check.dueRun("none is so, without end", x, 0, FIRST, SPENT, 0, 400, 0, 0);
    }

    private static void promise10TakeNone() {
        FusionRules x = Check.sentence(10, "then none, without asking");
        Check.make(x, 0, 1, 1, -1, TAKE, 0);
        Check.dueValue("TAKE 0", x, 0, COUNT, 0, 0, 1, 0, 0);
        x.fromRow(0, 0);
        x.act(0, TAKE, 0);
        Check.dueRun("TAKE 0 of a row of nothing", x, 0, FIRST, OF_NONE, 0, 1, 0, 0);
    }

    private static void promise10TakeThenNone() {
        FusionRules x = Check.sentence(10, "a times; then none, without asking");
        Check.make(x, 0, 1, 1, 3, TAKE, 3);
        Check.dueValue("as many as there are", x, 0, SUM, 6, 3, 4 + 3, 0, 3);
        Check.make(x, 0, 1, 1, 3, TAKE, 2);
        Check.dueValue("one less", x, 0, SUM, 3, 2, 3 + 2, 0, 2);
        Check.make(x, 0, 1, 1, 3, TAKE, 1);
        Check.dueValue("one", x, 0, SUM, 1, 1, 2 + 1, 0, 1);
    }

    private static void promise10TakeOfFewer() {
        FusionRules x = Check.sentence(10, "TAKE gives what the one ahead gives");
        Check.make(x, 0, 1, 1, 3, TAKE, 4);
        Check.dueValue("one more than there are", x, 0, SUM, 6, 3, 4 + 4, 0, 3);
        Check.make(x, 0, 1, 1, 0, TAKE, 100);
        Check.dueRun("of none", x, 0, LAST, OF_NONE, 0, 2, 0, 0);
    }

    private static void promise10TakeAHundred() {
        FusionRules x = Check.sentence(10, "TAKE gives what the one ahead gives, a times");
        Check.make(x, 0, 1, 1, -1, TAKE, 100);
        Check.dueValue("a hundred", x, 0, LAST, 100, 100, 101 + 100, 0, 100);
    }

    private static void promise10SkipNone() {
        FusionRules x = Check.sentence(10, "SKIP asks the one ahead a times more ahead of its first");
        Check.make(x, 0, 1, 1, 3, SKIP, 0);
        Check.dueValue("SKIP 0", x, 0, SUM, 6, 0, 4 + 4, 0, 3);
        Check.make(x, 0, 1, 1, 3, SKIP, 1);
        Check.dueValue("SKIP 1", x, 0, SUM, 5, 0, 3 + 4, 0, 2);
        Check.dueValue("SKIP 1, its first", x, 0, FIRST, 2, 0, 1 + 2, 0, 1);
    }

    private static void promise10SkipUpToNone() {
        FusionRules x = Check.sentence(10, "(up to none;");
        Check.make(x, 0, 1, 1, 3, SKIP, 100);
        Check.dueRun("more than there are", x, 0, FIRST, OF_NONE, 0, 1 + 4, 0, 0);
        Check.make(x, 0, 1, 1, 0, SKIP, 100);
        Check.dueRun("of none", x, 0, FIRST, OF_NONE, 0, 1 + 1, 0, 0);
        Check.make(x, 0, 1, 1, 3, TAKE, 2, SKIP, 5);
        Check.dueRun("of a TAKE", x, 0, COUNT, 0, 2, 1 + 3 + 2, 0, 0);
    }

    private static void promise10SkipAll() {
        FusionRules x = Check.sentence(10, "and gives what comes then");
        Check.make(x, 0, 1, 1, 3, SKIP, 3);
        Check.dueRun("as many as there are", x, 0, FIRST, OF_NONE, 0, 1 + 4, 0, 0);
        Check.make(x, 0, 1, 1, 3, SKIP, 2);
        Check.dueValue("one less", x, 0, SUM, 3, 0, 2 + 4, 0, 1);
        Check.make(x, 0, 1, 1, 3, SKIP, 4);
        Check.dueRun("one more", x, 0, FIRST, OF_NONE, 0, 1 + 4, 0, 0);
    }

    private static void promise10SkipWantsNothing() {
        FusionRules x = Check.sentence(10, "nothing is wanted of them");
        Check.make(x, 0, 0, 1, 3, OVER, 6, SKIP, 1);
        Check.dueValue("a fault is skipped", x, 0, SUM, 6 + 3, 3, 3 + 4 + 4, 2, 2);
        Check.make(x, 0, 0, 1, 3, OVER, 6, SKIP, 0);
        Check.dueRun("a fault is not skipped", x, 0, SUM, FAULT_4);
    }

    private static void promise10SkipAHundred() {
        FusionRules x = Check.sentence(10, "SKIP asks the one ahead a times more ahead of its first");
        Check.make(x, 0, 1, 1, -1, SKIP, 100);
        Check.dueValue("a hundred", x, 0, FIRST, 101, 0, 1 + 101, 0, 1);
    }

    private static void promise10WhileBelow() {
        FusionRules x = Check.sentence(10, "gives it if it is below a; else none");
        Check.make(x, 0, 1, 1, -1, WHILE, 4);
        Check.dueValue("4 is not below 4", x, 0, LAST, 3, 3, 4 + 4, 0, 3);
        Check.make(x, 0, 4, -1, 3, WHILE, 4);
        Check.dueRun("the first is not below", x, 0, FIRST, OF_NONE, 0, 2, 0, 0);
        Check.make(x, 0, LEAST, 0, 3, WHILE, LEAST);
        Check.dueValue("nothing is below the least", x, 0, COUNT, 0);
        Check.make(x, 0, GREATEST - 1, 1, 3, WHILE, GREATEST);
        Check.dueValue("the greatest is not below itself", x, 0, COUNT, 1);
        Check.make(x, 0, LEAST, 0, 3, WHILE, GREATEST);
        Check.dueValue("the least is below the greatest", x, 0, COUNT, 3);
    }

    private static void promise10WhileFromThenOn() {
        FusionRules x = Check.sentence(10, "else none, from then on without asking");
        Check.ints(x, 0, 1, 9, 2);
        x.fromRow(0, 0);
        Check.addActs(x, 0, WHILE, 5);
        Check.dueValue("2 comes behind 9", x, 0, SUM, 1, 1, 2 + 2, 0, 1);
        Check.addActs(x, 0, TURN, 0);
        Check.dueValue("turned", x, 0, SUM, 1, 1 + 1 + 1, 2 + 2 + 2, 0, 1);
    }

    private static void promise10WhileOfNone() {
        FusionRules x = Check.sentence(10, "WHILE asks the one ahead");
        Check.make(x, 0, 1, 1, 0, WHILE, 5);
        Check.dueRun("of none", x, 0, FIRST, OF_NONE, 0, 2, 0, 0);
        Check.make(x, 0, 1, 1, 3, WHILE, 5);
        Check.dueValue("to the end", x, 0, SUM, 6, 3, 4 + 4, 0, 3);
    }

    private static void promise10SumsOfTheFirst() {
        FusionRules x = Check.sentence(10, "(0 for the first)");
        Check.make(x, 0, 7, 1, 1, SUMS, 0);
        Check.dueValue("of one", x, 0, LAST, 7, 1, 4, 1, 1);
        Check.make(x, 0, 7, 1, 2, SUMS, 0);
        Check.dueValue("of two, the first", x, 0, FIRST, 7, 1, 2, 1, 1);
        Check.dueValue("of two, the last", x, 0, LAST, 15, 2, 6, 2, 2);
        Check.dueValue("each run from 0 on", x, 0, LAST, 15, 2, 6, 2, 2);
    }

    private static void promise10SumsWrap() {
        FusionRules x = Check.sentence(10, "that of the one that came, wrapping");
        Check.make(x, 0, GREATEST, -GREATEST + 1, 2, SUMS, 0);
        Check.dueValue("the greatest and 1", x, 0, LAST, LEAST);
        Check.make(x, 0, LEAST, 0, 2, SUMS, 0);
        Check.dueValue("the least twice", x, 0, LAST, 0);
    }

    private static void promise10SumsInThisOrder() {
        FusionRules x = Check.sentence(10, "(WORKED in this order)");
        Check.ints(x, 0, 0, 0);
        Check.make(x, 0, 0, 1, 2, PICK, 5, SUMS, 0);
        Check.dueRun("two faults alike", x, 0, LAST, FAULT_1, 4, 9, 2 + 1, 2);
        Check.make(x, 0, 2, -2, 2, OVER, 6, PICK, 0, SUMS, 0);
        Check.dueRun("the one it gave before has an index, the one that came is by 0", x, 0, LAST, FAULT_3,
            6, 12, 2 + 2, 2);
    }

    private static void promise10SumsOfSums() {
        FusionRules x = Check.sentence(10, "its value is that of the one it gave before");
        Check.make(x, 0, 1, 0, 39, SUMS, 0, SUMS, 0, SUMS, 0, SUMS, 0, SUMS, 0, SUMS, 0, SUMS, 0, SUMS, 0, SUMS, 0);
        Check.dueValue("47 over 9, all worked for the last", x, 0, LAST, 1362649145, 39 * 9, 400, 39 * 9, 39);
        Check.make(x, 0, 1, 1, -1, WHILE, 133, SUMS, 0);
        Check.dueValue("132 wait for one another", x, 0, LAST, 66 * 133, 132 + 132, 3 * 133, 132, 132);
    }

    private static void promise10SumsOfNone() {
        FusionRules x = Check.sentence(10, "SUMS asks the one ahead, and gives a new ELEMENT");
        Check.make(x, 0, 7, 1, 0, SUMS, 0);
        Check.dueRun("of none", x, 0, LAST, OF_NONE, 0, 2, 0, 0);
    }

    private static void promise10TurnTheLastFirst() {
        FusionRules x = Check.sentence(10, "then it gives these, the last first");
        Check.make(x, 0, 1, 1, 40, TURN, 0);
        Check.dueValue("forty, the first", x, 0, FIRST, 40, 41, 42, 0, 1);
        Check.dueValue("forty, the last", x, 0, LAST, 1, 80, 41 + 41, 0, 40);
        Check.make(x, 0, 1, 1, 40, TURN, 0, SKIP, 38);
        Check.dueValue("forty, the last but one", x, 0, FIRST, 2);
        Check.make(x, 0, 5, 1, 1, TURN, 0);
        Check.dueValue("one", x, 0, SUM, 5, 2, 4, 0, 1);
    }

    private static void promise10TurnTheFirstTime() {
        FusionRules x = Check.sentence(10, "TURN asks the one ahead, the first time, till there is none");
        Check.make(x, 0, 1, 1, 3, TURN, 0);
        Check.dueValue("the source is asked four times in all", x, 0, COUNT, 3, 6, 4 + 4, 0, 3);
        Check.make(x, 0, 1, 1, -1, TURN, 0);
        Check.dueRun("there is never none", x, 0, FIRST, SPENT, 399, 400, 0, 0);
        Check.make(x, 0, 1, 1, 3, TURN, 0, TAKE, 0);
        Check.dueValue("it is not asked, and does not ask", x, 0, COUNT, 0, 0, 1, 0, 0);
    }

    private static void promise10TurnOfNone() {
        FusionRules x = Check.sentence(10, "till there is none; then it gives these");
        Check.make(x, 0, 1, 1, 0, TURN, 0);
        Check.dueRun("of none", x, 0, FIRST, OF_NONE, 0, 2, 0, 0);
        x.row(0, INTS, 0);
        x.fromRow(0, 0);
        x.act(0, TURN, 0);
        Check.dueRun("of no cells", x, 0, FIRST, OF_NONE, 0, 2, 0, 0);
    }
}
