/** Promises 4 to 9 and 16: range, fromRow, act, twin, actOf, number, pipe. */
public final class PipeTest {
    private static final int SUM = 0;
    private static final int COUNT = 1;
    private static final int FIRST = 2;
    private static final int LAST = 3;

    public static void main(String[] args) {
        rangesCountOn();
        rangesKeepTheirBounds();
        rowsAreReadAsTheyAre();
        actsAreAdded();
        actsKeepTheirBounds();
        twinsAreOnTheirOwn();
        actOfTellsAnAct();
        numberTellsEachPart();
        pipeTells();
        Check.end();
    }

    private static void rangesCountOn() {
        FusionRules x = new FusionRules();
        Check.make(x, 3, 7, -3, 4);
        Check.dueValue("7 4 1 -2", x, 3, SUM, 10, 0, 5, 0, 4);
        Check.dueValue("7 4 1 -2", x, 3, LAST, -2);
        Check.make(x, 3, Long.MAX_VALUE, 1, 2);
        Check.dueValue("wrapping", x, 3, LAST, Long.MIN_VALUE);
        Check.make(x, 3, 1, 1, 40);
        Check.dueValue("40 of them", x, 3, SUM, 820);
        Check.make(x, 3, 1, 1, 0);
        Check.dueRun("none", x, 3, FIRST, 1);
        Check.make(x, 3, 1, 1, -1, 7, 100);
        Check.dueValue("without end", x, 3, LAST, 100);
        x.act(3, 0, 1);
        Check.due("range", 1, x.range(3, 1, 1, 5));
        Check.due("without acts", 0, x.pipe(3, 0));
    }

    private static void rangesKeepTheirBounds() {
        FusionRules x = new FusionRules();
        Check.make(x, 0, 5, 1, 3, 0, 1);
        Check.due("pipe -1", -1, x.range(-1, 0, 0, 1));
        Check.due("pipe 4", -1, x.range(4, 0, 0, 41));
        Check.due("n 41", -2, x.range(0, 0, 0, 41));
        Check.due("n -2", -2, x.range(0, 0, 0, -2));
        Check.dueActs("refusals change nothing", x, 0, "0:1");
        Check.dueValue("refusals change nothing", x, 0, SUM, 21);
    }

    private static void rowsAreReadAsTheyAre() {
        FusionRules x = new FusionRules();
        Check.make(x, 1, 5, 1, 3, 0, 1);
        Check.due("fromRow of nothing", 1, x.fromRow(1, 5));
        Check.due("without acts", 0, x.pipe(1, 0));
        Check.due("its source", 1, x.pipe(1, 1));
        Check.ints(x, 5, 3, 4);
        Check.dueValue("filled later", x, 1, SUM, 7);
        x.set(5, 0, 10);
        Check.dueValue("set later", x, 1, FIRST, 10);
        x.row(5, 3, 5);
        Check.dueValue("made anew later", x, 1, COUNT, 5);
        Check.due("pipe -1", -1, x.fromRow(-1, 0));
        Check.due("pipe 4", -1, x.fromRow(4, 0));
        Check.due("row -1", -1, x.fromRow(1, -1));
        Check.due("row 6", -1, x.fromRow(1, 6));
        Check.dueValue("refusals change nothing", x, 1, COUNT, 5);
        Check.due("range again", 1, x.range(1, 0, 0, 2));
        Check.due("its source", 0, x.pipe(1, 1));
    }

    private static void actsAreAdded() {
        FusionRules x = new FusionRules();
        for (int i = 0; i < 10; i++) {
            Check.due("act", i + 1, x.act(2, i, i == 3 ? 5 : 100));
        }
        Check.due("act 11", -4, x.act(2, 0, 1));
        Check.due("act 11 of no kind", -2, x.act(2, 12, 1));
        Check.due("act 11 of no number", -2, x.act(2, 7, 101));
        Check.dueActs("all", x, 2, "0:100 1:100 2:100 3:5 4:100 5:0 6:100 7:100 8:100 9:100");
        Check.due("twin of a full one", 10, x.twin(1, 2));
        Check.dueActs("all", x, 1, "0:100 1:100 2:100 3:5 4:100 5:0 6:100 7:100 8:100 9:100");
    }

    private static void actsKeepTheirBounds() {
        FusionRules x = new FusionRules();
        Check.due("pipe -1", -1, x.act(-1, 0, 0));
        Check.due("pipe 4", -1, x.act(4, 99, 0));
        Check.due("kind -1", -2, x.act(0, -1, 0));
        Check.due("kind 12", -2, x.act(0, 12, 0));
        Check.due("pick -1", -2, x.act(0, 3, -1));
        Check.due("pick 6", -2, x.act(0, 3, 6));
        Check.due("pick 2^32", -2, x.act(0, 3, 1L << 32));
        Check.due("take -1", -2, x.act(0, 7, -1));
        Check.due("take 101", -2, x.act(0, 7, 101));
        Check.due("skip -1", -2, x.act(0, 8, -1));
        Check.due("skip 101", -2, x.act(0, 8, 101));
        Check.due("skip 2^32", -2, x.act(0, 8, 1L << 32));
        Check.due("none so far", 0, x.pipe(0, 0));
        Check.addActs(x, 0, 3, 0, 3, 5, 7, 0, 7, 100, 8, 0, 8, 100);
        Check.addActs(x, 1, 5, -7, 10, 200, 11, Long.MIN_VALUE, 0, Long.MIN_VALUE, 9, -1, 4, -1, 6, 101);
        Check.dueActs("edges", x, 0, "3:0 3:5 7:0 7:100 8:0 8:100");
        Check.dueActs("edges", x, 1, "5:0 10:0 11:0 0:-9223372036854775808 9:-1 4:-1 6:101");
    }

    private static void twinsAreOnTheirOwn() {
        FusionRules x = new FusionRules();
        Check.make(x, 0, 1, 1, 10, 0, 3, 0, 4, 7, 3);
        Check.make(x, 1, 9, 9, 9, 1, 9, 1, 9, 1, 9, 1, 9);
        Check.due("twin", 3, x.twin(1, 0));
        Check.dueActs("twin", x, 1, "0:3 0:4 7:3");
        Check.dueValue("twin", x, 1, SUM, 27);
        x.phase(0);
        x.fuse(1);
        Check.dueActs("fused twin", x, 1, "0:3,4 7:3");
        Check.dueActs("the other one", x, 0, "0:3 0:4 7:3");
        Check.due("twin of a fused one", 2, x.twin(2, 1));
        Check.dueActs("twin of a fused one", x, 2, "0:3,4 7:3");
        Check.due("its own twin", 2, x.twin(2, 2));
        Check.dueActs("its own twin", x, 2, "0:3,4 7:3");
        Check.ints(x, 5, 8, 9);
        x.fromRow(3, 5);
        Check.due("twin of a row's", 0, x.twin(2, 3));
        Check.due("its source", 1, x.pipe(2, 1));
        Check.dueValue("twin of a row's", x, 2, SUM, 17);
        Check.due("pipe -1", -1, x.twin(-1, 0));
        Check.due("pipe 4", -1, x.twin(4, 0));
        Check.due("other -1", -1, x.twin(0, -1));
        Check.due("other 4", -1, x.twin(0, 4));
        Check.dueActs("refusals change nothing", x, 0, "0:3 0:4 7:3");
    }

    private static void actOfTellsAnAct() {
        FusionRules x = new FusionRules();
        Check.make(x, 0, 1, 1, 10, 1, 3, 0, 4, 11, 3);
        x.phase(0);
        x.fuse(0);
        Check.due("kind of its first", 1, x.actOf(0, 0, 0));
        Check.due("functions", 2, x.actOf(0, 0, 1));
        Check.due("kind", 11, x.actOf(0, 1, 0));
        Check.due("1 of others", 1, x.actOf(0, 1, 1));
        Check.due("pipe -1", -1, x.actOf(-1, 0, 0));
        Check.due("pipe 4", -1, x.actOf(4, 0, 9));
        Check.due("act -1", -1, x.actOf(0, -1, 0));
        Check.due("act 2 is gone", -1, x.actOf(0, 2, 9));
        Check.due("what -1", -2, x.actOf(0, 0, -1));
        Check.due("what 2", -2, x.actOf(0, 0, 2));
    }

    private static void numberTellsEachPart() {
        FusionRules x = new FusionRules();
        Check.make(x, 0, 1, 1, 10, 4, 3, 5, 4, 6, -5, 7, 9, 10, 8);
        x.phase(1);
        Check.due("fuse", 2, x.fuse(0));
        Check.due("test 0", 3, x.number(0, 0, 0));
        Check.due("test 1 does not look", 0, x.number(0, 0, 1));
        Check.due("test 2", -5, x.number(0, 0, 2));
        Check.due("test 3", 0, x.number(0, 0, 3));
        Check.due("test -1", 0, x.number(0, 0, -1));
        Check.due("of others", 9, x.number(0, 1, 0));
        Check.due("0 alone of others", 0, x.number(0, 1, 1));
        Check.due("sums do not look", 0, x.number(0, 2, 0));
        Check.due("act 3", 0, x.number(0, 3, 0));
        Check.due("act -1", 0, x.number(0, -1, 0));
        Check.due("pipe -1", 0, x.number(-1, 0, 0));
        Check.due("pipe 4", 0, x.number(4, 0, 0));
        numberForgetsWhatIsGone(x);
    }

    private static void numberForgetsWhatIsGone(FusionRules x) {
        x.phase(0);
        Check.make(x, 0, 1, 1, 10, 0, 1, 0, 2, 0, 3, 0, 4);
        Check.due("fuse", 3, x.fuse(0));
        Check.due("function 3", 4, x.number(0, 0, 3));
        Check.due("function 4", 0, x.number(0, 0, 4));
        Check.make(x, 0, 1, 1, 10, 0, 9);
        Check.due("function 1 is gone", 0, x.number(0, 0, 1));
        Check.due("function 0", 9, x.number(0, 0, 0));
    }

    private static void pipeTells() {
        FusionRules x = new FusionRules();
        x.fromRow(3, 2);
        x.act(3, 11, 0);
        Check.due("acts", 1, x.pipe(3, 0));
        Check.due("source", 1, x.pipe(3, 1));
        Check.due("what -1", -2, x.pipe(3, -1));
        Check.due("what 2", -2, x.pipe(3, 2));
        Check.due("pipe -1", -1, x.pipe(-1, 0));
        Check.due("pipe 4", -1, x.pipe(4, 2));
    }
}
