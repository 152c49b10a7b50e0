/** Promises 1 to 3: a new object, row, set. */
public final class RowTest {
    private static final int SUM = 0;
    private static final int COUNT = 1;
    private static final int LAST = 3;

    public static void main(String[] args) {
        aNewObjectHoldsNothing();
        rowsBecomeCellsOfNought();
        rowsKeepTheirBounds();
        setCasts();
        setRefuses();
        refusalsChangeNothing();
        Check.end();
    }

    private static void aNewObjectHoldsNothing() {
        FusionRules x = new FusionRules();
        for (int row = 0; row < 6; row++) {
            Check.due("set of a new row", -1, x.set(row, 0, 1));
            Check.due("fromRow", 1, x.fromRow(0, row));
            Check.dueRun("a new row", x, 0, COUNT, -11);
        }
        FusionRules y = new FusionRules();
        for (int pipe = 0; pipe < 4; pipe++) {
            Check.due("acts of a new pipe", 0, y.pipe(pipe, 0));
            Check.due("source of a new pipe", 0, y.pipe(pipe, 1));
            Check.dueValue("a new pipe", y, pipe, COUNT, 0, 0, 1, 0, 0);
        }
        Check.due("phases of a new object", 0, y.count(3));
    }

    private static void rowsBecomeCellsOfNought() {
        FusionRules x = new FusionRules();
        for (int kind = 1; kind <= 3; kind++) {
            Check.due("row", 1, x.row(5, kind, 16));
            Check.due("set", 1, x.set(5, 15, 7));
            x.fromRow(0, 5);
            Check.dueValue("16 cells", x, 0, COUNT, 16);
            Check.dueValue("16 cells", x, 0, SUM, 7);
            Check.due("row again", 1, x.row(5, kind, 16));
            Check.dueValue("row again clears", x, 0, SUM, 0);
        }
        Check.due("row of no cells", 1, x.row(5, 1, 0));
        Check.dueValue("a row of no cells is not nothing", x, 0, COUNT, 0);
        Check.due("row of nothing", 1, x.row(5, 0, 16));
        Check.dueRun("nothing, whatever n is", x, 0, COUNT, -11);
        Check.due("set of nothing", -1, x.set(5, 0, 1));
    }

    private static void rowsKeepTheirBounds() {
        FusionRules x = new FusionRules();
        Check.due("row -1", -1, x.row(-1, 1, 1));
        Check.due("row 6", -1, x.row(6, 1, 1));
        Check.due("row 6 of kind 4", -1, x.row(6, 4, 17));
        Check.due("kind -1", -2, x.row(0, -1, 1));
        Check.due("kind 4", -2, x.row(0, 4, 1));
        Check.due("n -1", -2, x.row(0, 1, -1));
        Check.due("n 17", -2, x.row(0, 1, 17));
        Check.due("n 17 of nothing", -2, x.row(0, 0, 17));
        Check.due("n -1 of nothing", -2, x.row(0, 0, -1));
        Check.due("n least", -2, x.row(0, 1, Integer.MIN_VALUE));
    }

    private static void setCasts() {
        FusionRules x = new FusionRules();
        long big = 0x1_8000_01FFL;
        x.fromRow(0, 0);
        x.row(0, 1, 2);
        Check.due("set an int", 1, x.set(0, 1, big));
        Check.dueValue("an int", x, 0, LAST, (int) big);
        x.row(0, 2, 2);
        Check.due("set a byte", 1, x.set(0, 1, big));
        Check.dueValue("a byte", x, 0, LAST, -1);
        Check.due("set a byte", 1, x.set(0, 1, 128));
        Check.dueValue("a byte", x, 0, LAST, -128);
        x.row(0, 3, 2);
        Check.due("set a long", 1, x.set(0, 1, Long.MIN_VALUE));
        Check.dueValue("a long", x, 0, LAST, Long.MIN_VALUE);
    }

    private static void setRefuses() {
        FusionRules x = new FusionRules();
        x.row(2, 1, 3);
        Check.due("set row -1", -1, x.set(-1, 0, 1));
        Check.due("set row 6", -1, x.set(6, 0, 1));
        Check.due("set cell -1", -1, x.set(2, -1, 1));
        Check.due("set cell 3", -1, x.set(2, 3, 1));
        Check.due("set a far cell", -1, x.set(2, Integer.MAX_VALUE, 1));
        Check.due("set cell 2", 1, x.set(2, 2, 1));
    }

    private static void refusalsChangeNothing() {
        FusionRules x = new FusionRules();
        Check.ints(x, 0, 5, 6);
        x.fromRow(0, 0);
        x.row(0, 0, 17);
        x.row(0, 4, 1);
        x.set(0, 2, 9);
        Check.dueValue("after refusals", x, 0, SUM, 11, 0, 3, 0, 2);
    }
}
