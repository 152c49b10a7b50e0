/** Promises 1 to 3 (a new object, row, set): each sentence that names an edge, on an object of its own. */
public final class EdgeRowTest implements Names {
    public static void main(String[] args) {
        promise1RowsHoldNothing();
        promise1PipesAreRangesOfNone();
        promise1NoPhases();
        promise2Rows0To5();
        promise2Kinds0To3();
        promise2Cells0To16();
        promise2CellsAlsoOfNothing();
        promise2CellsAre0();
        promise2Nothing();
        promise2NoCellsAreNotNothing();
        promise2FirstRefusal();
        promise2RefusalsChangeNothing();
        promise3OneCell();
        promise3CastToInt();
        promise3CastToByte();
        promise3CastToLong();
        promise3NoSuchRow();
        promise3Nothing();
        promise3NoSuchCell();
        promise3RefusalsChangeNothing();
        Check.end();
    }

    private static void promise1RowsHoldNothing() {
        FusionRules x = Check.sentence(1, "ROWS hold nothing");
        for (int row = 0; row < 6; row++) {
            Check.due("set(" + row + ", 0, 1)", NO_SUCH, x.set(row, 0, 1));
            Check.due("fromRow(0, " + row + ")", 1, x.fromRow(0, row));
            Check.dueRun("row " + row, x, 0, COUNT, FAULT_1);
            Check.make(x, 0, 0, 0, 1, PICK, row);
            Check.dueRun("a pick of row " + row, x, 0, SUM, FAULT_1);
        }
    }

    private static void promise1PipesAreRangesOfNone() {
        FusionRules x = Check.sentence(1, "PIPES are RANGES of none without ACTS");
        for (int pipe = 0; pipe < 4; pipe++) {
            Check.due("pipe(" + pipe + ", 0)", 0, x.pipe(pipe, 0));
            Check.due("pipe(" + pipe + ", 1)", 0, x.pipe(pipe, 1));
            Check.due("actOf(" + pipe + ", 0, 0)", NO_SUCH, x.actOf(pipe, 0, 0));
            Check.dueValue("pipe " + pipe, x, pipe, COUNT, 0, 0, 1, 0, 0);
            Check.dueRun("pipe " + pipe, x, pipe, FIRST, OF_NONE, 0, 1, 0, 0);
        }
    }

    private static void promise1NoPhases() {
        FusionRules x = Check.sentence(1, "no PHASES");
        Check.due("count(3)", 0, x.count(3));
        Check.make(x, 0, 1, 1, 9, TURN, 0, TURN, 0, ADD, 0, TIMES, 3, TAKE, 6, TAKE, 5, SKIP, 1, SKIP, 1,
            EVEN, 0, ABOVE, 1);
        Check.due("fuse(0)", 0, x.fuse(0));
        Check.due("pipe(0, 0)", 10, x.pipe(0, 0));
    }

    private static void promise2Rows0To5() {
        FusionRules x = Check.sentence(2, "ROWS 0 to 5");
        for (int row = 0; row <= 5; row++) {
            Check.due("row(" + row + ", 1, 1)", 1, x.row(row, INTS, 1));
            Check.due("set(" + row + ", 0, 1)", 1, x.set(row, 0, 1));
        }
        Check.due("row(-1, 1, 1)", NO_SUCH, x.row(-1, INTS, 1));
        Check.due("row(6, 1, 1)", NO_SUCH, x.row(6, INTS, 1));
        Check.due("the least row", NO_SUCH, x.row(LEAST_INT, INTS, 1));
        Check.due("the greatest row", NO_SUCH, x.row(GREATEST_INT, INTS, 1));
    }

    private static void promise2Kinds0To3() {
        FusionRules x = Check.sentence(2, "kind 0 to 3");
        for (int kind = 0; kind <= 3; kind++) {
            Check.due("row(0, " + kind + ", 1)", 1, x.row(0, kind, 1));
        }
        Check.due("row(0, -1, 1)", OUT_OF_BOUNDS, x.row(0, -1, 1));
        Check.due("row(0, 4, 1)", OUT_OF_BOUNDS, x.row(0, 4, 1));
        Check.due("the least kind", OUT_OF_BOUNDS, x.row(0, LEAST_INT, 1));
        Check.due("the greatest kind", OUT_OF_BOUNDS, x.row(0, GREATEST_INT, 1));
    }

    private static void promise2Cells0To16() {
        FusionRules x = Check.sentence(2, "n 0 to 16");
        x.fromRow(0, 0);
        for (int kind = INTS; kind <= LONGS; kind++) {
            Check.due("row(0, " + kind + ", 0)", 1, x.row(0, kind, 0));
            Check.dueValue("no cells", x, 0, COUNT, 0);
            Check.due("row(0, " + kind + ", 16)", 1, x.row(0, kind, 16));
            Check.dueValue("16 cells", x, 0, COUNT, 16);
            Check.due("row(0, " + kind + ", -1)", OUT_OF_BOUNDS, x.row(0, kind, -1));
            Check.due("row(0, " + kind + ", 17)", OUT_OF_BOUNDS, x.row(0, kind, 17));
            Check.due("the least n", OUT_OF_BOUNDS, x.row(0, kind, LEAST_INT));
            Check.due("the greatest n", OUT_OF_BOUNDS, x.row(0, kind, GREATEST_INT));
        }
    }

    private static void promise2CellsAlsoOfNothing() {
        FusionRules x = Check.sentence(2, "n 0 to 16 (also of 0)");
        Check.due("row(0, 0, 0)", 1, x.row(0, NOTHING, 0));
        Check.due("row(0, 0, 16)", 1, x.row(0, NOTHING, 16));
        Check.due("row(0, 0, -1)", OUT_OF_BOUNDS, x.row(0, NOTHING, -1));
        Check.due("row(0, 0, 17)", OUT_OF_BOUNDS, x.row(0, NOTHING, 17));
    }

    private static void promise2CellsAre0() {
        FusionRules x = Check.sentence(2, "A ROW becomes n cells 0 of a kind");
        x.fromRow(0, 0);
        for (int kind = INTS; kind <= LONGS; kind++) {
            x.row(0, kind, 16);
            x.set(0, 0, 7);
            x.set(0, 15, 7);
            Check.dueValue("two cells are 7", x, 0, SUM, 14);
            x.row(0, kind, 1);
            Check.dueValue("a shorter row", x, 0, SUM, 0, 0, 2, 0, 1);
            x.row(0, kind, 16);
            Check.dueValue("a row as long as before", x, 0, SUM, 0, 0, 17, 0, 16);
        }
    }

    private static void promise2Nothing() {
        FusionRules x = Check.sentence(2, "(0: nothing)");
        Check.ints(x, 0, 5, 6, 7);
        x.fromRow(0, 0);
        Check.due("row(0, 0, 3)", 1, x.row(0, NOTHING, 3));
        Check.dueRun("a row of nothing", x, 0, COUNT, FAULT_1);
        Check.due("set(0, 0, 1)", NO_SUCH, x.set(0, 0, 1));
        Check.due("row(0, 1, 3)", 1, x.row(0, INTS, 3));
        Check.dueValue("ints again", x, 0, SUM, 0, 0, 4, 0, 3);
    }

    private static void promise2NoCellsAreNotNothing() {
        FusionRules x = Check.sentence(2, "A ROW becomes n cells 0 of a kind");
        Check.due("row(0, 1, 0)", 1, x.row(0, INTS, 0));
        x.fromRow(0, 0);
        Check.dueRun("a row of no cells", x, 0, FIRST, OF_NONE, 0, 1, 0, 0);
        Check.make(x, 0, 0, 0, 1, PICK, 0);
        Check.dueRun("a pick of it", x, 0, SUM, FAULT_3);
    }

    private static void promise2FirstRefusal() {
        FusionRules x = Check.sentence(2, "of several the first one here: -1 there is no such row, pipe, act; -2");
        Check.due("row(6, 4, 1)", NO_SUCH, x.row(6, 4, 1));
        Check.due("row(-1, 1, 17)", NO_SUCH, x.row(-1, INTS, 17));
        Check.due("row(0, 4, 17)", OUT_OF_BOUNDS, x.row(0, 4, 17));
    }

    private static FusionRules withRows(FusionRules x) {
        Check.ints(x, 0, 5, 6);
        x.row(1, BYTES, 2);
        x.set(1, 1, -3);
        x.row(2, LONGS, 1);
        x.set(2, 0, GREATEST);
        x.fromRow(1, 0);
        x.fromRow(2, 1);
        x.run(1, SUM);
        return x;
    }

    private static void promise2RefusalsChangeNothing() {
        FusionRules x = withRows(Check.sentence(2, "REFUSALS change nothing"));
        for (int row = -1; row <= 6; row++) {
            x.row(row, -1, 1);
            x.row(row, 4, 1);
            x.row(row, INTS, -1);
            x.row(row, BYTES, 17);
            x.row(row, NOTHING, 17);
        }
        Check.dueAlike("after refusals", withRows(new FusionRules()), x);
    }

    private static void promise3OneCell() {
        FusionRules x = Check.sentence(3, "Cell i of a ROW becomes v");
        x.row(5, INTS, 16);
        x.fromRow(0, 5);
        Check.due("set(5, 0, 3)", 1, x.set(5, 0, 3));
        Check.dueValue("the first alone", x, 0, SUM, 3);
        Check.dueValue("the first", x, 0, FIRST, 3);
        Check.due("set(5, 15, 4)", 1, x.set(5, 15, 4));
        Check.dueValue("the first and the last", x, 0, SUM, 7);
        Check.dueValue("the last", x, 0, LAST, 4);
        Check.due("set(5, 15, 9)", 1, x.set(5, 15, 9));
        Check.dueValue("again", x, 0, LAST, 9);
    }

    private static void dueCast(FusionRules x, long v, long cell) {
        Check.due("set(0, 0, " + v + ")", 1, x.set(0, 0, v));
        Check.dueValue("the cell of " + v, x, 0, FIRST, cell);
    }

    private static void promise3CastToInt() {
        FusionRules x = Check.sentence(3, "becomes v, cast");
        x.row(0, INTS, 1);
        x.fromRow(0, 0);
        dueCast(x, GREATEST_INT, GREATEST_INT);
        dueCast(x, GREATEST_INT + 1L, LEAST_INT);
        dueCast(x, LEAST_INT, LEAST_INT);
        dueCast(x, LEAST_INT - 1L, GREATEST_INT);
        dueCast(x, 1L << 32, 0);
        dueCast(x, GREATEST, -1);
        dueCast(x, LEAST, 0);
    }

    private static void promise3CastToByte() {
        FusionRules x = Check.sentence(3, "becomes v, cast");
        x.row(0, BYTES, 1);
        x.fromRow(0, 0);
        dueCast(x, 127, 127);
        dueCast(x, 128, -128);
        dueCast(x, -128, -128);
        dueCast(x, -129, 127);
        dueCast(x, 255, -1);
        dueCast(x, 256, 0);
        dueCast(x, GREATEST, -1);
    }

    private static void promise3CastToLong() {
        FusionRules x = Check.sentence(3, "becomes v, cast");
        x.row(0, LONGS, 1);
        x.fromRow(0, 0);
        dueCast(x, GREATEST, GREATEST);
        dueCast(x, LEAST, LEAST);
        dueCast(x, 1L << 32, 1L << 32);
    }

    private static void promise3NoSuchRow() {
        FusionRules x = Check.sentence(3, "-1: also");
        Check.due("set(-1, 0, 1)", NO_SUCH, x.set(-1, 0, 1));
        Check.due("set(6, 0, 1)", NO_SUCH, x.set(6, 0, 1));
        Check.due("the least row", NO_SUCH, x.set(LEAST_INT, 0, 1));
        Check.due("the greatest row", NO_SUCH, x.set(GREATEST_INT, 0, 1));
    }

    private static void promise3Nothing() {
        FusionRules x = Check.sentence(3, "-1: also nothing");
        Check.due("set(0, 0, 1) at first", NO_SUCH, x.set(0, 0, 1));
        x.row(0, INTS, 4);
        Check.due("set(0, 0, 1) of ints", 1, x.set(0, 0, 1));
        x.row(0, NOTHING, 4);
        Check.due("set(0, 0, 1) of nothing", NO_SUCH, x.set(0, 0, 1));
    }

    private static void promise3NoSuchCell() {
        FusionRules x = Check.sentence(3, "no such cell");
        for (int kind = INTS; kind <= LONGS; kind++) {
            x.row(0, kind, 3);
            Check.due("set(0, -1, 1)", NO_SUCH, x.set(0, -1, 1));
            Check.due("set(0, 2, 1)", 1, x.set(0, 2, 1));
            Check.due("set(0, 3, 1)", NO_SUCH, x.set(0, 3, 1));
            x.row(0, kind, 0);
            Check.due("set(0, 0, 1) of no cells", NO_SUCH, x.set(0, 0, 1));
            x.row(0, kind, 16);
            Check.due("set(0, 15, 1) of 16", 1, x.set(0, 15, 1));
            Check.due("set(0, 16, 1) of 16", NO_SUCH, x.set(0, 16, 1));
            Check.due("the least cell", NO_SUCH, x.set(0, LEAST_INT, 1));
            Check.due("the greatest cell", NO_SUCH, x.set(0, GREATEST_INT, 1));
        }
    }

    private static void promise3RefusalsChangeNothing() {
        FusionRules x = withRows(Check.sentence(3, "REFUSALS change nothing"));
        for (int row = -1; row <= 6; row++) {
            x.set(row, -1, 99);
            x.set(row, 2, 99);
            x.set(row, 16, 99);
        }
        x.set(3, 0, 99);
        Check.dueAlike("after refusals", withRows(new FusionRules()), x);
    }
}
