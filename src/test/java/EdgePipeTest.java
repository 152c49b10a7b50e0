/** Promises 4, 5, 7, 8, 9, 16 (range, fromRow, twin, actOf, number, pipe): each sentence that names an edge. */
public final class EdgePipeTest implements Names {
    public static void main(String[] args) {
        testRange();
        testFromRow();
        testTwin();
        testActOf();
        testNumber();
        testPipe();
        Check.end();
    }

    private static void testRange() {
        promise4Pipes0To3();
        promise4FromMinus1To40();
        promise4NoneOfThem();
        promise4FortyOfThem();
        promise4WithoutEnd();
        promise4AsLongsWrapping();
        promise4WithoutActs();
        promise4FirstRefusal();
        promise4RefusalsChangeNothing();
    }

    private static void testFromRow() {
        promise5NoSuch();
        promise5ARowOfNothing();
        promise5NoCellsAndSixteen();
        promise5AsTheyAreWhenAskedFor();
        promise5WithoutActs();
        promise5RefusalsChangeNothing();
    }

    private static void testTwin() {
        promise7NoSuch();
        promise7FullAndEmpty();
        promise7AsAnotherOneIs();
        promise7PutTogetherOnes();
        promise7InPlaceOfItsOwn();
        promise7OnItsOwn();
        promise7OfItself();
        promise7RefusalsChangeNothing();
    }

    private static void testActOf() {
        promise8NoSuchPipe();
        promise8NoSuchAct();
        promise8What();
        promise8FirstRefusal();
        promise8KindOfItsFirst();
        promise8HowMany();
        promise8OneOfOthers();
        promise8RefusalsChangeNothing();
    }

    private static void testNumber() {
        promise9NoneSuch();
        promise9FourParts();
        promise9PartsThatAreGone();
        promise9Number0AloneOfOthers();
        promise9NotLookedAt();
        promise9AllLongs();
    }

    private static void testPipe() {
        promise16NoSuch();
        promise16What();
        promise16FirstRefusal();
        promise16None();
        promise16Full();
        promise16Sources();
        promise16RefusalsChangeNothing();
    }

    private static void promise4Pipes0To3() {
        FusionRules x = Check.sentence(4, "PIPES 0 to 3");
        for (int pipe = 0; pipe <= 3; pipe++) {
            Check.due("range(" + pipe + ", 1, 1, 1)", 1, x.range(pipe, 1, 1, 1));
            Check.dueValue("pipe " + pipe, x, pipe, SUM, 1);
        }
        Check.due("range(-1, 1, 1, 1)", NO_SUCH, x.range(-1, 1, 1, 1));
        Check.due("range(4, 1, 1, 1)", NO_SUCH, x.range(4, 1, 1, 1));
        Check.due("the least pipe", NO_SUCH, x.range(LEAST_INT, 1, 1, 1));
        Check.due("the greatest pipe", NO_SUCH, x.range(GREATEST_INT, 1, 1, 1));
    }

    private static void promise4FromMinus1To40() {
        FusionRules x = Check.sentence(4, "-2: n -1 to 40");
        for (int n = -1; n <= 40; n++) {
            Check.due("range(0, 1, 1, " + n + ")", 1, x.range(0, 1, 1, n));
        }
        Check.due("range(0, 1, 1, -2)", OUT_OF_BOUNDS, x.range(0, 1, 1, -2));
        Check.due("range(0, 1, 1, 41)", OUT_OF_BOUNDS, x.range(0, 1, 1, 41));
        Check.due("the least n", OUT_OF_BOUNDS, x.range(0, 1, 1, LEAST_INT));
        Check.due("the greatest n", OUT_OF_BOUNDS, x.range(0, 1, 1, GREATEST_INT));
    }

    private static void promise4NoneOfThem() {
        FusionRules x = Check.sentence(4, "n of them (0 to 40)");
        Check.make(x, 0, 5, 1, 0);
        Check.dueRun("none", x, 0, FIRST, OF_NONE, 0, 1, 0, 0);
        Check.make(x, 0, 5, 1, 1);
        Check.dueValue("one", x, 0, LAST, 5, 0, 2, 0, 1);
    }

    private static void promise4FortyOfThem() {
        FusionRules x = Check.sentence(4, "n of them (0 to 40)");
        Check.make(x, 0, 5, 2, 40);
        Check.dueValue("forty", x, 0, LAST, 5 + 39 * 2, 0, 41, 0, 40);
    }

    private static void promise4WithoutEnd() {
        FusionRules x = Check.sentence(4, "or without END (n -1)");
        Check.make(x, 0, 5, 1, -1);
        Check.dueRun("no end is come to", x, 0, COUNT, SPENT, 0, 400, 0, 400);
        Check.make(x, 0, 5, 1, -1, SKIP, 100);
        Check.dueValue("from, from + by, ..", x, 0, FIRST, 105);
    }

    private static void promise4AsLongsWrapping() {
        FusionRules x = Check.sentence(4, "(as longs, wrapping)");
        Check.make(x, 0, GREATEST, 1, 2);
        Check.dueValue("over the greatest", x, 0, LAST, LEAST);
        Check.make(x, 0, LEAST, -1, 2);
        Check.dueValue("under the least", x, 0, LAST, GREATEST);
        Check.make(x, 0, 1, LEAST, 3);
        Check.dueValue("by the least, twice", x, 0, LAST, 1);
        Check.make(x, 0, GREATEST, GREATEST, 3);
        Check.dueValue("by the greatest, twice", x, 0, LAST, GREATEST - 2);
        Check.make(x, 0, GREATEST_INT, 1, 2);
        Check.dueValue("over the greatest int", x, 0, LAST, 1L << 31);
        Check.make(x, 0, 7, 0, 40);
        Check.dueValue("by 0", x, 0, LAST, 7);
    }

    private static void promise4WithoutActs() {
        FusionRules x = Check.sentence(4, "A PIPE becomes a RANGE without ACTS");
        fill(x, 0, TAKE, 0);
        Check.due("range(0, 3, 1, 2)", 1, x.range(0, 3, 1, 2));
        Check.due("pipe(0, 0)", 0, x.pipe(0, 0));
        Check.dueValue("its own", x, 0, SUM, 7, 0, 3, 0, 2);
        x.fromRow(0, 0);
        Check.due("range(0, 3, 1, 2)", 1, x.range(0, 3, 1, 2));
        Check.due("pipe(0, 1)", 0, x.pipe(0, 1));
        Check.dueValue("no row any more", x, 0, SUM, 7, 0, 3, 0, 2);
    }

    private static void promise4FirstRefusal() {
        FusionRules x = Check.sentence(4, "of several the first one here: -1 there is no such row, pipe, act; -2");
        Check.due("range(4, 1, 1, 41)", NO_SUCH, x.range(4, 1, 1, 41));
        Check.due("range(-1, 1, 1, -2)", NO_SUCH, x.range(-1, 1, 1, -2));
    }

    private static void promise4RefusalsChangeNothing() {
        FusionRules x = withPipes(Check.sentence(4, "REFUSALS change nothing"));
        for (int pipe = -1; pipe <= 4; pipe++) {
            x.range(pipe, 99, 99, -2);
            x.range(pipe, 99, 99, 41);
        }
        x.range(4, 99, 99, 1);
        Check.dueAlike("after refusals", withPipes(new FusionRules()), x);
    }

    private static void promise5NoSuch() {
        FusionRules x = Check.sentence(5, "-1.");
        for (int pipe = 0; pipe <= 3; pipe++) {
            for (int row = 0; row <= 5; row++) {
                Check.due("fromRow(" + pipe + ", " + row + ")", 1, x.fromRow(pipe, row));
            }
            Check.due("fromRow(" + pipe + ", -1)", NO_SUCH, x.fromRow(pipe, -1));
            Check.due("fromRow(" + pipe + ", 6)", NO_SUCH, x.fromRow(pipe, 6));
        }
        Check.due("fromRow(-1, 0)", NO_SUCH, x.fromRow(-1, 0));
        Check.due("fromRow(4, 0)", NO_SUCH, x.fromRow(4, 0));
        Check.due("fromRow(4, 6)", NO_SUCH, x.fromRow(4, 6));
        Check.due("the least row", NO_SUCH, x.fromRow(0, LEAST_INT));
        Check.due("the greatest row", NO_SUCH, x.fromRow(0, GREATEST_INT));
        Check.due("the least pipe", NO_SUCH, x.fromRow(LEAST_INT, 0));
        Check.due("the greatest pipe", NO_SUCH, x.fromRow(GREATEST_INT, 0));
    }

    private static void promise5ARowOfNothing() {
        FusionRules x = Check.sentence(5, "A PIPE becomes a ROW's cells");
        Check.due("fromRow(0, 0) of nothing", 1, x.fromRow(0, 0));
        Check.due("pipe(0, 1)", 1, x.pipe(0, 1));
        Check.dueRun("it is a fault but in a run", x, 0, COUNT, FAULT_1, 0, 1, 0, 0);
    }

    private static void promise5NoCellsAndSixteen() {
        FusionRules x = Check.sentence(5, "1 a ROW's cells");
        x.fromRow(0, 5);
        x.row(5, LONGS, 0);
        Check.dueValue("no cells", x, 0, COUNT, 0, 0, 1, 0, 0);
        x.row(5, LONGS, 16);
        x.set(5, 0, 1);
        x.set(5, 15, 2);
        Check.dueValue("sixteen, and then none", x, 0, COUNT, 16, 0, 17, 0, 16);
        Check.dueValue("the first", x, 0, FIRST, 1);
        Check.dueValue("the last", x, 0, LAST, 2);
    }

    private static void promise5AsTheyAreWhenAskedFor() {
        FusionRules x = Check.sentence(5, "as they are when they are asked for");
        Check.ints(x, 2, 5, 6);
        x.fromRow(0, 2);
        x.set(2, 1, 60);
        Check.dueValue("set later", x, 0, SUM, 65);
        x.row(2, BYTES, 3);
        Check.dueValue("made anew later", x, 0, COUNT, 3);
        x.row(2, NOTHING, 3);
        Check.dueRun("nothing later", x, 0, COUNT, FAULT_1);
        x.row(2, INTS, 1);
        Check.dueValue("one cell later", x, 0, COUNT, 1);
    }

    private static void promise5WithoutActs() {
        FusionRules x = Check.sentence(5, "without ACTS: 1");
        Check.ints(x, 2, 5, 6);
        fill(x, 0, TAKE, 0);
        Check.due("fromRow(0, 2)", 1, x.fromRow(0, 2));
        Check.due("pipe(0, 0)", 0, x.pipe(0, 0));
        Check.dueValue("its cells", x, 0, SUM, 11, 0, 3, 0, 2);
    }

    private static void promise5RefusalsChangeNothing() {
        FusionRules x = withPipes(Check.sentence(5, "REFUSALS change nothing"));
        for (int pipe = -1; pipe <= 4; pipe++) {
            x.fromRow(pipe, -1);
            x.fromRow(pipe, 6);
        }
        x.fromRow(-1, 2);
        x.fromRow(4, 2);
        Check.dueAlike("after refusals", withPipes(new FusionRules()), x);
    }

    private static void promise7NoSuch() {
        FusionRules x = Check.sentence(7, "its ACTS. -1");
        for (int pipe = 0; pipe <= 3; pipe++) {
            Check.due("twin(" + pipe + ", 3)", 0, x.twin(pipe, 3));
            Check.due("twin(" + pipe + ", -1)", NO_SUCH, x.twin(pipe, -1));
            Check.due("twin(" + pipe + ", 4)", NO_SUCH, x.twin(pipe, 4));
            Check.due("twin(-1, " + pipe + ")", NO_SUCH, x.twin(-1, pipe));
            Check.due("twin(4, " + pipe + ")", NO_SUCH, x.twin(4, pipe));
        }
        Check.due("the least pipe", NO_SUCH, x.twin(LEAST_INT, 0));
        Check.due("the greatest other", NO_SUCH, x.twin(0, GREATEST_INT));
    }

    private static void promise7FullAndEmpty() {
        FusionRules x = Check.sentence(7, "A PIPE becomes as another one is: its ACTS");
        fill(x, 0, ADD, 3);
        Check.due("twin of a full one", 10, x.twin(1, 0));
        Check.dueActs("a full one", x, 1, "0:3 0:3 0:3 0:3 0:3 0:3 0:3 0:3 0:3 0:3");
        Check.due("it is full", NO_ROOM, x.act(1, ADD, 1));
        Check.due("twin of one without acts", 0, x.twin(1, 2));
        Check.due("pipe(1, 0)", 0, x.pipe(1, 0));
        Check.due("act(1, 7, 1)", 1, x.act(1, TAKE, 1));
        Check.dueActs("none of the acts of before", x, 1, "7:1");
    }

    private static void promise7AsAnotherOneIs() {
        FusionRules x = Check.sentence(7, "A PIPE becomes as another one is");
        Check.ints(x, 5, 8, 9);
        Check.make(x, 0, 5, 3, 4, ADD, 1);
        Check.make(x, 1, 5, 3, -1);
        x.fromRow(2, 5);
        Check.due("twin of a range", 1, x.twin(3, 0));
        Check.dueValue("a range", x, 3, SUM, 5 + 8 + 11 + 14 + 4);
        Check.due("twin of a range without end", 0, x.twin(3, 1));
        Check.dueRun("a range without end", x, 3, COUNT, SPENT);
        Check.due("twin of a row's cells", 0, x.twin(3, 2));
        Check.due("pipe(3, 1)", 1, x.pipe(3, 1));
        Check.dueValue("a row's cells", x, 3, SUM, 17);
    }

    private static void promise7PutTogetherOnes() {
        FusionRules x = Check.sentence(7, "A PIPE becomes as another one is");
        x.phase(0);
        x.phase(1);
        Check.make(x, 0, 1, 1, 9, ADD, 1, TIMES, 2, ADD, 3, TIMES, 4, ABOVE, 5, EVEN, 0);
        x.fuse(0);
        Check.due("twin(1, 0)", 2, x.twin(1, 0));
        Check.dueActs("all functions and tests", x, 1, "0:1,2,3,4 4:5,0");
        Check.dueValue("they work as the other's", x, 1, FIRST, 28);
    }

    private static void promise7InPlaceOfItsOwn() {
        FusionRules x = Check.sentence(7, "A PIPE becomes as another one is: its ACTS");
        x.phase(0);
        x.phase(1);
        Check.make(x, 0, 1, 1, 9, ADD, 1, TIMES, 2, ADD, 3, TIMES, 4, ABOVE, 5, EVEN, 0, TURN, 0);
        x.fuse(0);
        x.fromRow(1, 5);
        Check.addActs(x, 1, TAKE, 3, ADD, 7, SKIP, 2, SUMS, 0);
        x.twin(2, 0);
        Check.due("four acts become three", 3, x.twin(1, 0));
        Check.dueActs("four acts become three", x, 1, "0:1,2,3,4 4:5,0 11:0");
        Check.due("a row becomes a range", 0, x.pipe(1, 1));
        Check.make(x, 3, 1, 1, 2, UNLIKE, 8, WHILE, 9, SUMS, 0, PICK, 4);
        Check.due("three acts become four", 4, x.twin(2, 3));
        Check.dueActs("three acts become four", x, 2, "6:8 9:9 10:0 3:4");
        Check.due("number(2, 0, 1) of before", 0, x.number(2, 0, 1));
    }

    private static void promise7OnItsOwn() {
        FusionRules x = Check.sentence(7, "A PIPE becomes as another one is");
        x.phase(2);
        Check.make(x, 0, 1, 1, 9, TAKE, 5, TAKE, 4);
        x.twin(1, 0);
        x.fuse(1);
        x.act(1, ADD, 1);
        Check.dueActs("the other one stays", x, 0, "7:5 7:4");
        x.range(0, 0, 0, 0);
        Check.dueActs("the twin stays", x, 1, "7:4 0:1");
        Check.dueValue("the twin stays", x, 1, COUNT, 4);
    }

    private static void promise7OfItself() {
        FusionRules x = Check.sentence(7, "A PIPE becomes as another one is: its ACTS");
        Check.make(x, 0, 1, 1, 9, TAKE, 5, ADD, 4);
        Check.due("twin(0, 0)", 2, x.twin(0, 0));
        Check.dueActs("as it was", x, 0, "7:5 0:4");
        Check.dueValue("as it was", x, 0, SUM, 35);
    }

    private static void promise7RefusalsChangeNothing() {
        FusionRules x = withPipes(Check.sentence(7, "REFUSALS change nothing"));
        for (int pipe = -1; pipe <= 4; pipe++) {
            x.twin(pipe, -1);
            x.twin(pipe, 4);
            x.twin(-1, pipe);
            x.twin(4, pipe);
        }
        Check.dueAlike("after refusals", withPipes(new FusionRules()), x);
    }

    private static void promise8NoSuchPipe() {
        FusionRules x = Check.sentence(8, "-1; -2.");
        for (int pipe = 0; pipe <= 3; pipe++) {
            x.act(pipe, TAKE, 1);
            Check.due("actOf(" + pipe + ", 0, 0)", TAKE, x.actOf(pipe, 0, 0));
        }
        Check.due("actOf(-1, 0, 0)", NO_SUCH, x.actOf(-1, 0, 0));
        Check.due("actOf(4, 0, 0)", NO_SUCH, x.actOf(4, 0, 0));
        Check.due("the least pipe", NO_SUCH, x.actOf(LEAST_INT, 0, 0));
        Check.due("the greatest pipe", NO_SUCH, x.actOf(GREATEST_INT, 0, 0));
    }

    private static void promise8NoSuchAct() {
        FusionRules x = Check.sentence(8, "-1; -2.");
        Check.due("actOf(0, 0, 0) without acts", NO_SUCH, x.actOf(0, 0, 0));
        x.act(0, SUMS, 0);
        Check.due("actOf(0, 0, 0)", SUMS, x.actOf(0, 0, 0));
        Check.due("actOf(0, -1, 0)", NO_SUCH, x.actOf(0, -1, 0));
        Check.due("actOf(0, 1, 0)", NO_SUCH, x.actOf(0, 1, 0));
        Check.due("the least act", NO_SUCH, x.actOf(0, LEAST_INT, 0));
        Check.due("the greatest act", NO_SUCH, x.actOf(0, GREATEST_INT, 0));
        fill(x, 1, TURN, 0);
        Check.due("actOf(1, 9, 0) of ten", TURN, x.actOf(1, 9, 0));
        Check.due("actOf(1, 10, 0) of ten", NO_SUCH, x.actOf(1, 10, 0));
        x.phase(5);
        x.fuse(1);
        Check.due("actOf(1, 0, 0) of acts that are gone", NO_SUCH, x.actOf(1, 0, 0));
    }

    private static void promise8What() {
        FusionRules x = Check.sentence(8, "Of ACT i: 0 its KIND (of its first function, test), 1 how many");
        x.act(0, WHILE, 7);
        Check.due("actOf(0, 0, 0)", WHILE, x.actOf(0, 0, 0));
        Check.due("actOf(0, 0, 1)", 1, x.actOf(0, 0, 1));
        Check.due("actOf(0, 0, -1)", OUT_OF_BOUNDS, x.actOf(0, 0, -1));
        Check.due("actOf(0, 0, 2)", OUT_OF_BOUNDS, x.actOf(0, 0, 2));
        Check.due("the least what", OUT_OF_BOUNDS, x.actOf(0, 0, LEAST_INT));
        Check.due("the greatest what", OUT_OF_BOUNDS, x.actOf(0, 0, GREATEST_INT));
    }

    private static void promise8FirstRefusal() {
        FusionRules x = Check.sentence(8, "of several the first one here: -1 there is no such row, pipe, act; -2");
        x.act(0, WHILE, 7);
        Check.due("actOf(4, 0, 2)", NO_SUCH, x.actOf(4, 0, 2));
        Check.due("actOf(0, 1, 2)", NO_SUCH, x.actOf(0, 1, 2));
        Check.due("actOf(0, -1, -1)", NO_SUCH, x.actOf(0, -1, -1));
    }

    private static void promise8KindOfItsFirst() {
        FusionRules x = Check.sentence(8, "its KIND (of its first function, test)");
        x.phase(0);
        x.phase(1);
        Check.make(x, 0, 1, 1, 9, OVER, 1, TIMES, 2, ADD, 3, PICK, 4, UNLIKE, 5, EVEN, 0);
        x.fuse(0);
        Check.due("of four functions", OVER, x.actOf(0, 0, 0));
        Check.due("of two tests", UNLIKE, x.actOf(0, 1, 0));
    }

    private static void promise8HowMany() {
        FusionRules x = Check.sentence(8, "1 how many functions, tests");
        x.phase(0);
        x.phase(1);
        Check.make(x, 0, 1, 1, 9, OVER, 1, TURN, 0, EVEN, 0);
        Check.due("one function", 1, x.actOf(0, 0, 1));
        Check.due("one test", 1, x.actOf(0, 2, 1));
        Check.make(x, 0, 1, 1, 9, OVER, 1, OVER, 2, OVER, 3, OVER, 4, OVER, 5, EVEN, 0, EVEN, 0, EVEN, 0, EVEN, 0);
        x.fuse(0);
        Check.due("four functions", 4, x.actOf(0, 0, 1));
        Check.due("the fifth alone", 1, x.actOf(0, 1, 1));
        Check.due("four tests", 4, x.actOf(0, 2, 1));
    }

    private static void promise8OneOfOthers() {
        FusionRules x = Check.sentence(8, "(1 of others)");
        x.phase(2);
        x.phase(3);
        Check.make(x, 0, 1, 1, 9, TAKE, 0, TAKE, 4, SUMS, 0, SKIP, 100, SKIP, 4, WHILE, 7, TURN, 9, TAKE, 4);
        x.fuse(0);
        int[] kinds = {TAKE, SUMS, SKIP, WHILE, TURN, TAKE};
        for (int i = 0; i < kinds.length; i++) {
            Check.due("kind of act " + i, kinds[i], x.actOf(0, i, 0));
            Check.due("how many of act " + i, 1, x.actOf(0, i, 1));
        }
    }

    private static void promise8RefusalsChangeNothing() {
        FusionRules x = withPipes(Check.sentence(8, "REFUSALS change nothing"));
        for (int pipe = -1; pipe <= 4; pipe++) {
            x.actOf(pipe, -1, 0);
            x.actOf(pipe, 10, 1);
            x.actOf(pipe, 0, 2);
        }
        Check.dueAlike("after refusals", withPipes(new FusionRules()), x);
    }

    private static void promise9NoneSuch() {
        FusionRules x = Check.sentence(9, "0: there is none such");
        x.act(0, TAKE, 7);
        fill(x, 1, TAKE, 7);
        Check.due("number(0, 0, 0)", 7, x.number(0, 0, 0));
        Check.due("number(-1, 0, 0)", 0, x.number(-1, 0, 0));
        Check.due("number(4, 0, 0)", 0, x.number(4, 0, 0));
        Check.due("number(0, -1, 0)", 0, x.number(0, -1, 0));
        Check.due("number(0, 1, 0)", 0, x.number(0, 1, 0));
        Check.due("number(2, 0, 0) without acts", 0, x.number(2, 0, 0));
        Check.due("number(1, 9, 0) of ten", 7, x.number(1, 9, 0));
        Check.due("number(1, 10, 0) of ten", 0, x.number(1, 10, 0));
        Check.due("the least act", 0, x.number(0, LEAST_INT, 0));
        Check.due("the greatest act", 0, x.number(0, GREATEST_INT, 0));
        Check.due("the least pipe", 0, x.number(LEAST_INT, 0, 0));
        Check.due("the greatest pipe", 0, x.number(GREATEST_INT, 0, 0));
    }

    private static void promise9FourParts() {
        FusionRules x = Check.sentence(9, "Number a of function, test k");
        x.phase(0);
        x.phase(1);
        Check.make(x, 0, 1, 1, 9, OVER, 11, OVER, 12, OVER, 13, OVER, 14, ABOVE, 15, UNLIKE, 16);
        x.fuse(0);
        for (int k = 0; k < 4; k++) {
            Check.due("function " + k, 11 + k, x.number(0, 0, k));
        }
        Check.due("function 4", 0, x.number(0, 0, 4));
        Check.due("function -1", 0, x.number(0, 0, -1));
        Check.due("the least function", 0, x.number(0, 0, LEAST_INT));
        Check.due("the greatest function", 0, x.number(0, 0, GREATEST_INT));
        Check.due("test 0", 15, x.number(0, 1, 0));
        Check.due("test 1", 16, x.number(0, 1, 1));
        Check.due("test 2", 0, x.number(0, 1, 2));
    }

    private static void promise9PartsThatAreGone() {
        FusionRules x = Check.sentence(9, "0: there is none such");
        x.phase(0);
        Check.make(x, 0, 1, 1, 9, OVER, 11, OVER, 12, OVER, 13, OVER, 14);
        x.fuse(0);
        Check.make(x, 0, 1, 1, 9, OVER, 21, TAKE, 3);
        Check.due("function 0", 21, x.number(0, 0, 0));
        Check.due("function 1 of before", 0, x.number(0, 0, 1));
        Check.due("number 1 of a take", 0, x.number(0, 1, 1));
        Check.due("act 2 of before", 0, x.number(0, 2, 0));
    }

    private static void promise9Number0AloneOfOthers() {
        FusionRules x = Check.sentence(9, "(0 alone of others");
        Check.make(x, 0, 1, 1, 9, TAKE, 11, SKIP, 12, WHILE, 13);
        for (int i = 0; i < 3; i++) {
            Check.due("number 0 of act " + i, 11 + i, x.number(0, i, 0));
            Check.due("number 1 of act " + i, 0, x.number(0, i, 1));
            Check.due("number -1 of act " + i, 0, x.number(0, i, -1));
        }
    }

    private static void promise9NotLookedAt() {
        FusionRules x = Check.sentence(9, "of those that do not look at it 0");
        x.phase(1);
        Check.make(x, 0, 1, 1, 9, EVEN, 11, SUMS, 12, TURN, 13, UNLIKE, 14, EVEN, 15, ABOVE, 16);
        x.fuse(0);
        Check.due("of EVEN", 0, x.number(0, 0, 0));
        Check.due("of SUMS", 0, x.number(0, 1, 0));
        Check.due("of TURN", 0, x.number(0, 2, 0));
        Check.due("of UNLIKE ahead of EVEN", 14, x.number(0, 3, 0));
        Check.due("of EVEN among tests", 0, x.number(0, 3, 1));
        Check.due("of ABOVE behind EVEN", 16, x.number(0, 3, 2));
    }

    private static void promise9AllLongs() {
        FusionRules x = Check.sentence(9, "Number a of function, test k");
        int[] kinds = {ADD, TIMES, OVER, ABOVE, UNLIKE, WHILE};
        for (int kind : kinds) {
            Check.make(x, 0, 1, 1, 9, kind, LEAST, kind, GREATEST, kind, 1L << 32);
            Check.due("the least", LEAST, x.number(0, 0, 0));
            Check.due("the greatest", GREATEST, x.number(0, 1, 0));
            Check.due("more than an int", 1L << 32, x.number(0, 2, 0));
        }
    }

    private static void promise16NoSuch() {
        FusionRules x = Check.sentence(16, "-1; -2.");
        for (int pipe = 0; pipe <= 3; pipe++) {
            Check.due("pipe(" + pipe + ", 0)", 0, x.pipe(pipe, 0));
        }
        Check.due("pipe(-1, 0)", NO_SUCH, x.pipe(-1, 0));
        Check.due("pipe(4, 0)", NO_SUCH, x.pipe(4, 0));
        Check.due("the least pipe", NO_SUCH, x.pipe(LEAST_INT, 0));
        Check.due("the greatest pipe", NO_SUCH, x.pipe(GREATEST_INT, 0));
    }

    private static void promise16What() {
        FusionRules x = Check.sentence(16, "-1; -2.");
        Check.due("pipe(0, -1)", OUT_OF_BOUNDS, x.pipe(0, -1));
        Check.due("pipe(0, 2)", OUT_OF_BOUNDS, x.pipe(0, 2));
        Check.due("the least what", OUT_OF_BOUNDS, x.pipe(0, LEAST_INT));
        Check.due("the greatest what", OUT_OF_BOUNDS, x.pipe(0, GREATEST_INT));
    }

    private static void promise16FirstRefusal() {
        FusionRules x = Check.sentence(16, "of several the first one here: -1 there is no such row, pipe, act; -2");
        Check.due("pipe(4, 2)", NO_SUCH, x.pipe(4, 2));
        Check.due("pipe(-1, -1)", NO_SUCH, x.pipe(-1, -1));
    }

    private static void promise16None() {
        FusionRules x = Check.sentence(16, "0 ACTS of a PIPE");
        Check.due("pipe(0, 0) at first", 0, x.pipe(0, 0));
        x.act(0, ADD, 0);
        Check.due("pipe(0, 0)", 1, x.pipe(0, 0));
        Check.due("another's", 0, x.pipe(1, 0));
        x.phase(7);
        x.fuse(0);
        Check.due("pipe(0, 0) of one that is gone", 0, x.pipe(0, 0));
    }

    private static void promise16Full() {
        FusionRules x = Check.sentence(16, "0 ACTS of a PIPE");
        fill(x, 0, ADD, 1);
        Check.due("pipe(0, 0) of ten", 10, x.pipe(0, 0));
        x.act(0, ADD, 1);
        Check.due("pipe(0, 0) behind a refusal", 10, x.pipe(0, 0));
    }

    private static void promise16Sources() {
        FusionRules x = Check.sentence(16, "1 its SOURCE (0, 1)");
        Check.due("pipe(0, 1) at first", 0, x.pipe(0, 1));
        x.fromRow(0, 0);
        Check.due("pipe(0, 1) of a row", 1, x.pipe(0, 1));
        x.range(0, 1, 1, -1);
        Check.due("pipe(0, 1) of a range", 0, x.pipe(0, 1));
    }

    private static void promise16RefusalsChangeNothing() {
        FusionRules x = withPipes(Check.sentence(16, "REFUSALS change nothing"));
        for (int what = -1; what <= 2; what++) {
            x.pipe(-1, what);
            x.pipe(4, what);
        }
        x.pipe(0, -1);
        x.pipe(3, 2);
        Check.dueAlike("after refusals", withPipes(new FusionRules()), x);
    }

    private static void fill(FusionRules x, int pipe, int kind, long a) {
        for (int i = 1; i <= 10; i++) {
            Check.due("act " + i, i, x.act(pipe, kind, a));
        }
    }

    /** An object whose pipes all differ: a range, one without end, a row's cells, put together acts. */
    private static FusionRules withPipes(FusionRules x) {
        Check.ints(x, 2, 5, 6, 7);
        Check.make(x, 0, 5, 2, 6, ADD, 1, TAKE, 4);
        Check.make(x, 1, 5, 2, -1, WHILE, 20, SUMS, 0);
        x.fromRow(2, 2);
        x.act(2, TURN, 0);
        x.phase(0);
        Check.make(x, 3, 1, 1, 4, TIMES, 2, ADD, 3);
        x.fuse(3);
        x.run(0, SUM);
        return x;
    }
}
