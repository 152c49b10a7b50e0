/** Promise 6 (act): each sentence that names an edge. What an ACT does in a RUN stands in EdgeAskTest. */
public final class EdgeActTest implements Names {
    public static void main(String[] args) {
        promise6Pipes0To3();
        promise6HowMany();
        promise6NoRoom();
        promise6RoomAgain();
        promise6Kinds();
        promise6NumberOfPick();
        promise6NumberOfTakeAndSkip();
        promise6NumberNotLookedAt();
        promise6NumberOfOthers();
        promise6FirstRefusal();
        promise6RefusalsChangeNothing();
        Check.end();
    }

    private static void promise6Pipes0To3() {
        FusionRules x = Check.sentence(6, "PIPES 0 to 3");
        for (int pipe = 0; pipe <= 3; pipe++) {
            Check.due("act(" + pipe + ", 0, 1)", 1, x.act(pipe, ADD, 1));
        }
        Check.due("act(-1, 0, 1)", NO_SUCH, x.act(-1, ADD, 1));
        Check.due("act(4, 0, 1)", NO_SUCH, x.act(4, ADD, 1));
        Check.due("the least pipe", NO_SUCH, x.act(LEAST_INT, ADD, 1));
        Check.due("the greatest pipe", NO_SUCH, x.act(GREATEST_INT, ADD, 1));
    }

    private static void promise6HowMany() {
        FusionRules x = Check.sentence(6, "An ACT more: how many");
        fill(x, 3, WHILE, 2);
        Check.due("pipe(3, 0)", 10, x.pipe(3, 0));
        Check.due("another pipe's first", 1, x.act(2, WHILE, 2));
    }

    private static void promise6NoRoom() {
        FusionRules x = Check.sentence(6, "up to 10 ACTS");
        for (int kind = ADD; kind <= TURN; kind++) {
            x.range(0, 1, 1, 9);
            fill(x, 0, kind, 1);
            Check.due("an eleventh of kind " + kind, NO_ROOM, x.act(0, kind, 1));
            Check.due("pipe(0, 0)", 10, x.pipe(0, 0));
        }
    }

    private static void promise6RoomAgain() {
        FusionRules x = Check.sentence(6, "up to 10 ACTS");
        fill(x, 0, ADD, 1);
        x.phase(0);
        Check.due("fuse(0)", 7, x.fuse(0));
        for (int i = 4; i <= 10; i++) {
            Check.due("act " + i, i, x.act(0, TAKE, i));
        }
        Check.due("an eleventh", NO_ROOM, x.act(0, TAKE, 1));
        Check.dueActs("four, four, two, and the new ones", x, 0,
            "0:1,1,1,1 0:1,1,1,1 0:1,1 7:4 7:5 7:6 7:7 7:8 7:9 7:10");
    }

    private static void promise6Kinds() {
        FusionRules x = Check.sentence(6, "-2: KIND");
        Check.due("act(0, 0, 0)", 1, x.act(0, 0, 0));
        Check.due("act(0, 11, 0)", 2, x.act(0, 11, 0));
        Check.due("act(0, -1, 0)", OUT_OF_BOUNDS, x.act(0, -1, 0));
        Check.due("act(0, 12, 0)", OUT_OF_BOUNDS, x.act(0, 12, 0));
        Check.due("the least kind", OUT_OF_BOUNDS, x.act(0, LEAST_INT, 0));
        Check.due("the greatest kind", OUT_OF_BOUNDS, x.act(0, GREATEST_INT, 0));
    }

    private static void dueNoNumber(FusionRules x, int kind, long a) {
        Check.due("act(0, " + kind + ", " + a + ")", OUT_OF_BOUNDS, x.act(0, kind, a));
    }

    private static void promise6NumberOfPick() {
        FusionRules x = Check.sentence(6, "a of PICK 0 to 5");
        for (int row = 0; row <= 5; row++) {
            Check.due("act(0, 3, " + row + ")", row + 1, x.act(0, PICK, row));
        }
        for (long a : new long[] {-1, 6, 1L << 32, (1L << 32) + 5, -1L << 32, LEAST, GREATEST}) {
            dueNoNumber(x, PICK, a);
        }
        Check.dueActs("0 to 5", x, 0, "3:0 3:1 3:2 3:3 3:4 3:5");
    }

    private static void promise6NumberOfTakeAndSkip() {
        FusionRules x = Check.sentence(6, "of TAKE, SKIP 0 to 100");
        for (int kind = TAKE; kind <= SKIP; kind++) {
            x.range(0, 1, 1, 9);
            Check.due("act(0, " + kind + ", 0)", 1, x.act(0, kind, 0));
            Check.due("act(0, " + kind + ", 100)", 2, x.act(0, kind, 100));
            for (long a : new long[] {-1, 101, 1L << 32, (1L << 32) + 100, -1L << 32, LEAST, GREATEST}) {
                dueNoNumber(x, kind, a);
            }
            Check.due("number(0, 0, 0)", 0, x.number(0, 0, 0));
            Check.due("number(0, 1, 0)", 100, x.number(0, 1, 0));
        }
    }

    private static void promise6NumberNotLookedAt() {
        FusionRules x = Check.sentence(6, "(of 5, 10, 11 it is not looked at)");
        for (int kind : new int[] {EVEN, SUMS, TURN}) {
            Check.make(x, 0, 1, 1, 4, kind, -1, kind, 6, kind, 101, kind, LEAST, kind, GREATEST);
            String each = kind + ":0";
            Check.dueActs("kind " + kind, x, 0, String.join(" ", each, each, each, each, each));
        }
        Check.make(x, 0, 1, 1, 4, EVEN, 3);
        Check.dueValue("EVEN 3", x, 0, SUM, 6);
        Check.make(x, 0, 1, 1, 4, SUMS, 3);
        Check.dueValue("SUMS 3", x, 0, LAST, 10);
        Check.make(x, 0, 1, 1, 4, TURN, 3);
        Check.dueValue("TURN 3", x, 0, FIRST, 4);
    }

    private static void promise6NumberOfOthers() {
        FusionRules x = Check.sentence(6, "ACTS have a KIND and a number a");
        for (int kind : new int[] {ADD, TIMES, OVER, ABOVE, UNLIKE, WHILE}) {
            x.range(0, 1, 1, 4);
            Check.due("act(0, " + kind + ", the least)", 1, x.act(0, kind, LEAST));
            Check.due("act(0, " + kind + ", the greatest)", 2, x.act(0, kind, GREATEST));
            Check.due("act(0, " + kind + ", -1)", 3, x.act(0, kind, -1));
            Check.due("act(0, " + kind + ", 101)", 4, x.act(0, kind, 101));
        }
    }

    private static void promise6FirstRefusal() {
        FusionRules x = Check.sentence(6, "of several the first one here");
        fill(x, 0, ADD, 1);
        Check.due("act(4, 12, 0): -1 ahead of -2", NO_SUCH, x.act(4, 12, 0));
        Check.due("act(-1, 7, 101): -1 ahead of -2", NO_SUCH, x.act(-1, TAKE, 101));
        Check.due("a full pipe, kind 12: -2 ahead of -4", OUT_OF_BOUNDS, x.act(0, 12, 0));
        Check.due("a full pipe, pick 6: -2 ahead of -4", OUT_OF_BOUNDS, x.act(0, PICK, 6));
        Check.due("a full pipe, take 101: -2 ahead of -4", OUT_OF_BOUNDS, x.act(0, TAKE, 101));
        Check.due("a full pipe, skip -1: -2 ahead of -4", OUT_OF_BOUNDS, x.act(0, SKIP, -1));
        Check.due("a full pipe", NO_ROOM, x.act(0, SKIP, 1));
    }

    private static FusionRules withAFullPipe(FusionRules x) {
        x.range(0, 1, 1, 9);
        fill(x, 0, ADD, 1);
        Check.make(x, 1, 1, 1, 9, TAKE, 4);
        x.run(1, SUM);
        return x;
    }

    private static void promise6RefusalsChangeNothing() {
        FusionRules x = withAFullPipe(Check.sentence(6, "REFUSALS change nothing"));
        x.act(0, TAKE, 0);
        x.act(0, 12, 0);
        for (int pipe = -1; pipe <= 4; pipe++) {
            x.act(pipe, -1, 0);
            x.act(pipe, 12, 0);
            x.act(pipe, PICK, 6);
            x.act(pipe, TAKE, 101);
            x.act(pipe, SKIP, -1);
        }
        Check.dueAlike("after refusals", withAFullPipe(new FusionRules()), x);
    }

    private static void fill(FusionRules x, int pipe, int kind, long a) {
        for (int i = 1; i <= 10; i++) {
            Check.due("act " + i, i, x.act(pipe, kind, a));
        }
    }
}
