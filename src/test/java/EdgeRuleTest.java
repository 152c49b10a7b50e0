/** Promises 13 to 15 (phase, why, fuse): each sentence that names an edge, on an object of its own. */
public final class EdgeRuleTest implements Names {
    public static void main(String[] args) {
        testPhase();
        testWhy();
        testFuse();
        testFuseByEachRule();
        Check.end();
    }

    private static void testPhase() {
        promise13Rules0To7();
        promise13EightAtMost();
        promise13NoneAnyMore();
        promise13FirstRefusal();
        promise13RefusalsChangeNothing();
    }

    private static void testWhy() {
        promise14NoSuchPipe();
        promise14NoSuchAct();
        promise14NoNextOne();
        promise14Rules0To7();
        promise14FirstRefusal();
        promise14OtherOnes();
        promise14OneBehindTheOther();
        promise14MoreThan4Functions();
        promise14MoreThan4Tests();
        promise14WithoutEnd();
        promise14TakeAheadOfThem();
        promise14OtherOnesComeFirst();
        promise14ForOne();
        promise14ForOneAlone();
        promise14ChangesNothing();
        promise14RefusalsChangeNothing();
    }

    private static void testFuse() {
        promise15Pipes0To3();
        promise15WithoutPhases();
        promise15WithoutActs();
        promise15EightPhases();
        promise15WhereItFirstFits();
        promise15TillItFitsNowhere();
        promise15InRow();
        promise15TheSameList();
        promise15RefusalsChangeNothing();
    }

    private static void testFuseByEachRule() {
        promise15FourFunctionsAtMost();
        promise15FourTestsAtMost();
        promise15TheLesser();
        promise15BothTogether();
        promise15TheOtherWayRound();
        promise15TurnTurn();
        promise15TurnTurnWithoutEnd();
        promise15TakeWhatIsLeft();
        promise15NoneOfOne();
        promise15NotAlone();
    }

    private static void promise13Rules0To7() {
        FusionRules x = Check.sentence(13, "-2: rule 0 to 7");
        for (int rule = 0; rule <= 7; rule++) {
            Check.due("phase(" + rule + ")", rule + 1, x.phase(rule));
        }
        x.phase(-1);
        Check.due("phase(-2)", OUT_OF_BOUNDS, x.phase(-2));
        Check.due("phase(8)", OUT_OF_BOUNDS, x.phase(8));
        Check.due("the least rule", OUT_OF_BOUNDS, x.phase(LEAST_INT));
        Check.due("the greatest rule", OUT_OF_BOUNDS, x.phase(GREATEST_INT));
        Check.due("count(3)", 0, x.count(3));
    }

    private static void promise13EightAtMost() {
        FusionRules x = Check.sentence(13, "(rules, in row, 8 at most)");
        for (int i = 1; i <= 8; i++) {
            Check.due("phase(5) for the " + i + "th time", i, x.phase(5));
        }
        for (int rule = 0; rule <= 7; rule++) {
            Check.due("a ninth, phase(" + rule + ")", NO_ROOM, x.phase(rule));
        }
        Check.due("count(3)", 8, x.count(3));
    }

    private static void promise13NoneAnyMore() {
        FusionRules x = Check.sentence(13, "(-1: none any more): how many");
        Check.due("phase(-1) of none", 0, x.phase(-1));
        for (int i = 1; i <= 8; i++) {
            x.phase(0);
        }
        Check.due("phase(-1) of eight", 0, x.phase(-1));
        Check.due("count(3)", 0, x.count(3));
        Check.make(x, 0, 1, 1, 9, ADD, 1, ADD, 2, TAKE, 3, TAKE, 4);
        Check.due("fuse(0) by none", 0, x.fuse(0));
        Check.due("phase(2)", 1, x.phase(2));
        Check.due("fuse(0) by the new one alone", 1, x.fuse(0));
        Check.dueActs("by the new one alone", x, 0, "0:1 0:2 7:3");
    }

    private static void promise13FirstRefusal() {
        FusionRules x = Check.sentence(13, "of several the first one here");
        for (int i = 1; i <= 8; i++) {
            x.phase(0);
        }
        Check.due("a ninth, phase(8): -2 ahead of -4", OUT_OF_BOUNDS, x.phase(8));
        Check.due("a ninth, phase(-2): -2 ahead of -4", OUT_OF_BOUNDS, x.phase(-2));
        Check.due("a ninth, phase(7)", NO_ROOM, x.phase(7));
    }

    private static FusionRules withPhases(FusionRules x) {
        for (int i = 1; i <= 4; i++) {
            x.phase(0);
            x.phase(7);
        }
        Check.make(x, 0, 1, 1, 9, ADD, 0, ADD, 2, TURN, 0);
        Check.make(x, 1, 1, 1, 9, TAKE, 6, SKIP, 2);
        x.run(0, SUM);
        return x;
    }

    private static void promise13RefusalsChangeNothing() {
        FusionRules x = withPhases(Check.sentence(13, "REFUSALS change nothing"));
        for (int rule = 0; rule <= 8; rule++) {
            x.phase(rule);
        }
        x.phase(-2);
        Check.dueAlike("after refusals", withPhases(new FusionRules()), x);
    }

    private static void promise14NoSuchPipe() {
        FusionRules x = Check.sentence(14, "-1: also no next one; -2");
        for (int pipe = 0; pipe <= 3; pipe++) {
            Check.addActs(x, pipe, ADD, 1, ADD, 2);
            Check.due("why(" + pipe + ", 0, 0)", 0, x.why(pipe, 0, 0));
        }
        Check.due("why(-1, 0, 0)", NO_SUCH, x.why(-1, 0, 0));
        Check.due("why(4, 0, 0)", NO_SUCH, x.why(4, 0, 0));
        Check.due("the least pipe", NO_SUCH, x.why(LEAST_INT, 0, 0));
        Check.due("the greatest pipe", NO_SUCH, x.why(GREATEST_INT, 0, 0));
    }

    private static void promise14NoSuchAct() {
        FusionRules x = Check.sentence(14, "-1: also no next one; -2");
        Check.due("why(0, 0, 7) without acts", NO_SUCH, x.why(0, 0, 7));
        Check.addActs(x, 0, ADD, 0, ADD, 0);
        Check.due("why(0, 1, 7)", 0, x.why(0, 1, 7));
        Check.due("why(0, 2, 7)", NO_SUCH, x.why(0, 2, 7));
        Check.due("why(0, -1, 7)", NO_SUCH, x.why(0, -1, 7));
        Check.due("why(0, -1, 0)", NO_SUCH, x.why(0, -1, 0));
        for (int i = 3; i <= 10; i++) {
            x.act(0, ADD, 0);
        }
        Check.due("why(0, 9, 7) of ten", 0, x.why(0, 9, 7));
        Check.due("why(0, 10, 7) of ten", NO_SUCH, x.why(0, 10, 7));
        Check.due("the least act", NO_SUCH, x.why(0, LEAST_INT, 7));
        Check.due("the greatest act", NO_SUCH, x.why(0, GREATEST_INT, 7));
        Check.due("the greatest act and its next one", NO_SUCH, x.why(0, GREATEST_INT, 0));
    }

    private static void promise14NoNextOne() {
        FusionRules x = Check.sentence(14, "-1: also no next one");
        x.act(0, ADD, 0);
        for (int rule = 0; rule <= 6; rule++) {
            Check.due("why(0, 0, " + rule + ") of one", NO_SUCH, x.why(0, 0, rule));
        }
        Check.due("why(0, 0, 7) of one", 0, x.why(0, 0, 7));
        for (int i = 2; i <= 10; i++) {
            x.act(0, ADD, 1);
        }
        Check.due("why(0, 8, 0) of ten", 0, x.why(0, 8, 0));
        for (int rule = 0; rule <= 6; rule++) {
            Check.due("why(0, 9, " + rule + ") of ten", NO_SUCH, x.why(0, 9, rule));
        }
        Check.due("why(0, 9, 7) of ten", 1, x.why(0, 9, 7));
    }

    private static void promise14Rules0To7() {
        FusionRules x = Check.sentence(14, "no next one; -2");
        Check.addActs(x, 0, ADD, 1, ADD, 2);
        for (int rule = 0; rule <= 7; rule++) {
            Check.due("why(0, 0, " + rule + ")", rule == 0 ? 0 : 1, x.why(0, 0, rule));
        }
        Check.due("why(0, 0, -1)", OUT_OF_BOUNDS, x.why(0, 0, -1));
        Check.due("why(0, 0, 8)", OUT_OF_BOUNDS, x.why(0, 0, 8));
        Check.due("the least rule", OUT_OF_BOUNDS, x.why(0, 0, LEAST_INT));
        Check.due("the greatest rule", OUT_OF_BOUNDS, x.why(0, 0, GREATEST_INT));
    }

    private static void promise14FirstRefusal() {
        FusionRules x = Check.sentence(14, "of several the first one here: -1 there is no such row, pipe, act; -2");
        Check.addActs(x, 0, ADD, 1, ADD, 2);
        Check.due("why(4, 0, 8)", NO_SUCH, x.why(4, 0, 8));
        Check.due("why(0, 2, 8)", NO_SUCH, x.why(0, 2, 8));
        Check.due("why(0, -1, -1)", NO_SUCH, x.why(0, -1, -1));
        // only rules 0 to 6 ask for a next one, so that there is but one refusal here
        Check.due("why(0, 1, 8)", OUT_OF_BOUNDS, x.why(0, 1, 8));
        Check.due("why(0, 1, -1)", OUT_OF_BOUNDS, x.why(0, 1, -1));
    }

    /** Whether a rule fits two acts, one behind the other. */
    private static void dueWhy(FusionRules x, int rule, int due, int first, int next) {
        Check.make(x, 0, 1, 1, 9, first, 1, next, 1);
        Check.due("why " + rule + " of kinds " + first + " and " + next, due, x.why(0, 0, rule));
    }

    private static void promise14OtherOnes() {
        FusionRules x = Check.sentence(14, "0 it does; 1 they are other ones");
        dueWhy(x, 0, 0, ADD, PICK);
        dueWhy(x, 0, 0, PICK, ADD);
        dueWhy(x, 0, 1, PICK, ABOVE);
        dueWhy(x, 0, 1, ABOVE, PICK);
        dueWhy(x, 0, 1, ADD, SUMS);
        dueWhy(x, 1, 0, ABOVE, UNLIKE);
        dueWhy(x, 1, 0, UNLIKE, ABOVE);
        dueWhy(x, 1, 1, UNLIKE, TAKE);
        dueWhy(x, 1, 1, UNLIKE, WHILE);
        dueWhy(x, 1, 1, WHILE, WHILE);
        dueWhy(x, 2, 0, TAKE, TAKE);
        dueWhy(x, 2, 1, TAKE, SKIP);
        dueWhy(x, 3, 0, SKIP, SKIP);
        dueWhy(x, 3, 1, SKIP, TAKE);
        dueWhy(x, 4, 0, ADD, TAKE);
        dueWhy(x, 4, 0, PICK, SKIP);
        dueWhy(x, 4, 1, ADD, WHILE);
        dueWhy(x, 4, 1, ABOVE, TAKE);
        dueWhy(x, 5, 0, TURN, TURN);
        dueWhy(x, 5, 1, SUMS, TURN);
        dueWhy(x, 6, 0, TAKE, SKIP);
        dueWhy(x, 6, 1, TAKE, TAKE);
    }

    private static void promise14OneBehindTheOther() {
        FusionRules x = Check.sentence(14, "RULES for two ACTS, one behind the other");
        dueWhy(x, 4, 1, TAKE, ADD);
        dueWhy(x, 4, 1, SKIP, ADD);
        dueWhy(x, 6, 1, SKIP, TAKE);
        Check.make(x, 0, 1, 1, 9, TAKE, 1, SUMS, 0, TAKE, 1);
        Check.due("one stands between them", 1, x.why(0, 0, 2));
        Check.due("the second and the third", 1, x.why(0, 1, 2));
    }

    /** Pipe 1 becomes TAKE 50 and MAPS of so many functions each: rule 0 puts these together between TAKES. */
    private static void makeMaps(FusionRules x, int... functions) {
        x.range(1, 1, 1, 9);
        x.phase(-1);
        x.phase(0);
        for (int many : functions) {
            for (int k = 0; k < many; k++) {
                x.act(1, ADD, k);
            }
            x.act(1, TAKE, 50);
        }
        x.fuse(1);
        x.phase(-1);
        x.phase(4);
        x.phase(2);
        x.fuse(1);
    }

    private static void promise14MoreThan4Functions() {
        FusionRules x = Check.sentence(14, "2 more than 4");
        int[][] functions = {{1, 1}, {2, 2}, {3, 1}, {1, 3}, {2, 3}, {4, 1}, {1, 4}, {4, 4}, {3, 2}};
        for (int[] two : functions) {
            makeMaps(x, two);
            String when = two[0] + " and " + two[1] + " functions";
            Check.due(when + ": the first", two[0], x.actOf(1, 1, 1));
            Check.due(when + ": the next", two[1], x.actOf(1, 2, 1));
            Check.due(when, two[0] + two[1] > 4 ? 2 : 0, x.why(1, 1, 0));
        }
    }

    private static void promise14MoreThan4Tests() {
        FusionRules x = Check.sentence(14, "2 more than 4");
        x.phase(1);
        Check.make(x, 0, 1, 1, 9, EVEN, 0, EVEN, 0, EVEN, 0);
        x.fuse(0);
        x.act(0, ABOVE, 1);
        Check.due("3 and 1 tests", 0, x.why(0, 0, 1));
        x.fuse(0);
        x.act(0, ABOVE, 2);
        Check.due("4 and 1 tests", 2, x.why(0, 0, 1));
        x.act(0, ABOVE, 3);
        x.act(0, ABOVE, 4);
        x.act(0, ABOVE, 5);
        x.fuse(0);
        Check.dueActs("4 and 4 tests", x, 0, "5:0,0,0,1 4:2,3,4,5");
        Check.due("4 and 4 tests", 2, x.why(0, 0, 1));
    }

    private static void promise14WithoutEnd() {
        FusionRules x = Check.sentence(14, "3 without END");
        Check.make(x, 0, 1, 1, -1, TURN, 0, TURN, 0);
        Check.due("a range without end", 3, x.why(0, 0, 5));
        Check.make(x, 0, 1, 1, 0, TURN, 0, TURN, 0);
        Check.due("a range of none", 0, x.why(0, 0, 5));
        Check.make(x, 0, 1, 1, 40, TURN, 0, TURN, 0);
        Check.due("a range of forty", 0, x.why(0, 0, 5));
        x.range(0, 1, 1, -1);
        x.fromRow(0, 0);
        Check.addActs(x, 0, TURN, 0, TURN, 0);
        Check.due("a row that holds nothing", 0, x.why(0, 0, 5));
        x.row(0, LONGS, 16);
        Check.due("a row", 0, x.why(0, 0, 5));
        x.twin(1, 0);
        Check.due("a row's twin", 0, x.why(1, 0, 5));
    }

    private static void promise14TakeAheadOfThem() {
        FusionRules x = Check.sentence(14, "or a TAKE stands ahead of them");
        Check.make(x, 0, 1, 1, -1, TAKE, 0, TURN, 0, TURN, 0, TURN, 0);
        Check.due("TAKE 0 right ahead", 0, x.why(0, 1, 5));
        Check.due("behind a TURN", 0, x.why(0, 2, 5));
        Check.make(x, 0, 1, 1, -1, ADD, 1, TAKE, 100, SUMS, 0, EVEN, 0, TURN, 0, TURN, 0);
        Check.due("TAKE 100 far ahead", 0, x.why(0, 4, 5));
        Check.make(x, 0, 1, 1, -1, TURN, 0, TURN, 0, TAKE, 1);
        Check.due("a TAKE behind them", 3, x.why(0, 0, 5));
        Check.make(x, 0, 1, 1, -1, WHILE, 3, SKIP, 3, TURN, 0, TURN, 0);
        Check.due("a WHILE is no TAKE", 3, x.why(0, 2, 5));
        x.twin(1, 0);
        Check.due("nor in a twin", 3, x.why(1, 2, 5));
    }

    private static void promise14OtherOnesComeFirst() {
        FusionRules x = Check.sentence(14, "1 they are other ones; 2 more than 4; 3 without END");
        x.phase(0);
        Check.make(x, 0, 1, 1, -1, ADD, 1, ADD, 2, ADD, 3, ADD, 4, EVEN, 0, TURN, 0, TAKE, 1);
        x.fuse(0);
        Check.due("4 functions and a TEST, rule 0", 1, x.why(0, 0, 0));
        Check.due("4 functions and a TEST, rule 1", 1, x.why(0, 0, 1));
        Check.due("a TURN and a TAKE without END", 1, x.why(0, 2, 5));
    }

    private static void promise14ForOne() {
        FusionRules x = Check.sentence(14, "And for one: 7 ADD 0, TIMES 1 (alone), SKIP 0");
        Check.make(x, 0, 1, 1, 9, ADD, 0, ADD, 1, ADD, -1, TIMES, 1, TIMES, 0, TIMES, -1, SKIP, 0, SKIP, 1, TAKE, 0);
        int[] due = {0, 1, 1, 0, 1, 1, 0, 1, 1};
        for (int i = 0; i < due.length; i++) {
            Check.due("why(0, " + i + ", 7)", due[i], x.why(0, i, 7));
        }
        Check.make(x, 0, 1, 1, 9, ADD, 1L << 32, TIMES, (1L << 32) + 1, OVER, 0, OVER, 1, PICK, 0, EVEN, 0, UNLIKE, 0,
            SUMS, 0, TURN, 0, WHILE, 0);
        for (int i = 0; i < 10; i++) {
            Check.due("why(0, " + i + ", 7) of others", 1, x.why(0, i, 7));
        }
    }

    private static void promise14ForOneAlone() {
        FusionRules x = Check.sentence(14, "TIMES 1 (alone)");
        x.phase(0);
        Check.make(x, 0, 1, 1, 9, TIMES, 1, TIMES, 1);
        Check.due("each alone", 0, x.why(0, 0, 7));
        x.fuse(0);
        Check.due("both in one", 1, x.why(0, 0, 7));
        Check.make(x, 0, 1, 1, 9, ADD, 0, TIMES, 5);
        x.fuse(0);
        Check.due("ADD 0 ahead of another", 1, x.why(0, 0, 7));
    }

    private static void promise14ChangesNothing() {
        FusionRules x = withPhases(Check.sentence(14, "Whether a rule fits ACT i (0 to 6: and the next one)"));
        for (int rule = 0; rule <= 7; rule++) {
            for (int i = 0; i < 3; i++) {
                x.why(0, i, rule);
                x.why(1, i, rule);
            }
        }
        Check.dueAlike("after the questions", withPhases(new FusionRules()), x);
    }

    private static void promise14RefusalsChangeNothing() {
        FusionRules x = withPhases(Check.sentence(14, "REFUSALS change nothing"));
        for (int pipe = -1; pipe <= 4; pipe++) {
            x.why(pipe, -1, 0);
            x.why(pipe, 9, 0);
            x.why(pipe, 0, 8);
            x.why(pipe, 0, -1);
        }
        Check.dueAlike("after refusals", withPhases(new FusionRules()), x);
    }

    private static void promise15Pipes0To3() {
        FusionRules x = Check.sentence(15, "how often a rule was used. -1");
        x.phase(7);
        for (int pipe = 0; pipe <= 3; pipe++) {
            Check.addActs(x, pipe, ADD, 0);
        }
        for (int pipe = 0; pipe <= 3; pipe++) {
            Check.due("fuse(" + pipe + ")", 1, x.fuse(pipe));
            Check.due("pipe(" + pipe + ", 0)", 0, x.pipe(pipe, 0));
            Check.due("pipe(3, 0)", pipe == 3 ? 0 : 1, x.pipe(3, 0));
        }
        Check.due("fuse(-1)", NO_SUCH, x.fuse(-1));
        Check.due("fuse(4)", NO_SUCH, x.fuse(4));
        Check.due("the least pipe", NO_SUCH, x.fuse(LEAST_INT));
        Check.due("the greatest pipe", NO_SUCH, x.fuse(GREATEST_INT));
    }

    private static void promise15WithoutPhases() {
        FusionRules x = Check.sentence(15, "FUSED by PHASES");
        Check.make(x, 0, 1, 1, 9, ADD, 0, ADD, 0, TAKE, 3, TAKE, 2, SKIP, 0);
        Check.due("fuse(0)", 0, x.fuse(0));
        Check.dueActs("as before", x, 0, "0:0 0:0 7:3 7:2 8:0");
    }

    private static void promise15WithoutActs() {
        FusionRules x = Check.sentence(15, "A PIPE is FUSED: how often a rule was used");
        for (int rule = 0; rule <= 7; rule++) {
            x.phase(rule);
        }
        Check.due("fuse(0) without acts", 0, x.fuse(0));
        x.act(0, TURN, 0);
        Check.due("fuse(0) of one that no rule fits", 0, x.fuse(0));
        Check.due("pipe(0, 0)", 1, x.pipe(0, 0));
    }

    private static void promise15EightPhases() {
        FusionRules x = Check.sentence(15, "(rules, in row, 8 at most)");
        for (int i = 1; i <= 7; i++) {
            x.phase(5);
        }
        x.phase(2);
        x.phase(3);
        Check.make(x, 0, 1, 1, 9, TAKE, 4, TAKE, 3, SKIP, 1, SKIP, 1);
        Check.due("fuse(0) by the eighth, not by a ninth", 1, x.fuse(0));
        Check.dueActs("by the eighth", x, 0, "7:3 8:1 8:1");
    }

    private static void promise15WhereItFirstFits() {
        FusionRules x = Check.sentence(15, "each PHASE uses its rule where it first fits, from the first ACT on");
        makeMaps(x, 3, 2);
        x.act(1, ADD, 7);
        x.phase(-1);
        x.phase(0);
        Check.due("fuse(1): 3 and 2 are too many, 2 and 1 are not", 1, x.fuse(1));
        Check.dueActs("3 and 3", x, 1, "7:50 0:0,1,2 0:0,1,7");
        Check.make(x, 0, 1, 1, 9, ADD, 1, ADD, 2, ADD, 3, ADD, 4, ADD, 5, ADD, 6);
        Check.due("fuse(0)", 4, x.fuse(0));
        Check.dueActs("4 and 2, not 3 and 3", x, 0, "0:1,2,3,4 0:5,6");
    }

    private static void promise15TillItFitsNowhere() {
        FusionRules x = Check.sentence(15, "again and again till it fits nowhere");
        x.phase(4);
        Check.make(x, 0, 1, 1, 9, ADD, 1, ADD, 2, ADD, 3, ADD, 4, ADD, 5, TAKE, 5, SKIP, 4, TAKE, 3, SKIP, 2, TAKE, 1);
        Check.due("fuse(0): each of five past each of five", 25, x.fuse(0));
        Check.dueActs("in their order", x, 0, "7:5 8:4 7:3 8:2 7:1 0:1 0:2 0:3 0:4 0:5");
        Check.due("fuse(0) again", 0, x.fuse(0));
        x.phase(-1);
        x.phase(6);
        Check.due("fuse(0): 7:5 8:4 7:3 8:2 7:1", 3, x.fuse(0));
        Check.dueActs("skips ahead of takes", x, 0, "8:4 8:2 7:0 7:1 7:1 0:1 0:2 0:3 0:4 0:5");
    }

    private static void promise15InRow() {
        FusionRules x = Check.sentence(15, "FUSED by PHASES (rules, in row");
        Check.make(x, 0, 1, 1, 9, ADD, 1, TAKE, 5, ADD, 2);
        x.twin(1, 0);
        x.phase(0);
        x.phase(4);
        Check.due("0, then 4", 1, x.fuse(0));
        Check.dueActs("0 has no second turn", x, 0, "7:5 0:1 0:2");
        x.phase(-1);
        x.phase(4);
        x.phase(0);
        Check.due("4, then 0", 2, x.fuse(1));
        Check.dueActs("4, then 0", x, 1, "7:5 0:1,2");
        x.phase(-1);
        x.phase(0);
        x.phase(4);
        x.phase(0);
        Check.due("0, 4, then 0 again", 1, x.fuse(0));
        Check.dueActs("0, 4, then 0 again", x, 0, "7:5 0:1,2");
    }

    private static void promise15TheSameList() {
        FusionRules x = Check.sentence(15, "A PIPE is FUSED");
        x.phase(4);
        x.phase(5);
        x.phase(6);
        x.phase(3);
        x.phase(2);
        x.phase(7);
        x.phase(0);
        x.phase(1);
        Check.make(x, 0, 1, 1, 30, TIMES, 3, ADD, 0, ADD, 2, SKIP, 4, TAKE, 9, SKIP, 1, TURN, 0, TURN, 0,
            EVEN, 0, UNLIKE, 20);
        Check.dueValue("ahead of it", x, 0, SUM, 26 + 32 + 38);
        Check.due("fuse(0)", 9 + 1 + 1 + 1 + 1 + 1 + 1, x.fuse(0));
        Check.dueActs("fused", x, 0, "8:5 7:8 1:3,2 5:0,20");
        Check.dueValue("behind it", x, 0, SUM, 26 + 32 + 38);
    }

    private static void promise15RefusalsChangeNothing() {
        FusionRules x = withPhases(Check.sentence(15, "REFUSALS change nothing"));
        x.fuse(-1);
        x.fuse(4);
        Check.dueAlike("after refusals", withPhases(new FusionRules()), x);
    }

    /** What one rule makes of the acts of pipe 0, a range of nine. */
    private static void dueFused(FusionRules x, int rule, int uses, String want, long... acts) {
        Check.make(x, 0, 1, 1, 9, acts);
        x.phase(-1);
        x.phase(rule);
        Check.due("fuse(0) to " + want, uses, x.fuse(0));
        Check.dueActs("rule " + rule, x, 0, want);
    }

    private static void promise15FourFunctionsAtMost() {
        FusionRules x = Check.sentence(15, "0 MAP MAP: one MAP of both, 4 functions at most");
        dueFused(x, 0, 0, "0:1", ADD, 1);
        dueFused(x, 0, 3, "0:1,2,3,4", ADD, 1, TIMES, 2, OVER, 3, PICK, 4);
        dueFused(x, 0, 3, "0:1,2,3,4 0:5", ADD, 1, ADD, 2, ADD, 3, ADD, 4, ADD, 5);
        dueFused(x, 0, 6, "0:1,2,3,4 0:5,6,7,8", ADD, 1, ADD, 2, ADD, 3, ADD, 4, ADD, 5, ADD, 6, ADD, 7, ADD, 8);
        dueFused(x, 0, 7, "0:1,2,3,4 0:5,6,7,8 0:9,10", ADD, 1, ADD, 2, ADD, 3, ADD, 4, ADD, 5, ADD, 6, ADD, 7,
            ADD, 8, ADD, 9, ADD, 10);
    }

    private static void promise15FourTestsAtMost() {
        FusionRules x = Check.sentence(15, "1 TEST TEST: likewise");
        dueFused(x, 1, 0, "5:0", EVEN, 1);
        dueFused(x, 1, 3, "4:1,0,3,4", ABOVE, 1, EVEN, 2, UNLIKE, 3, ABOVE, 4);
        dueFused(x, 1, 3, "4:1,0,3,4 6:5", ABOVE, 1, EVEN, 2, UNLIKE, 3, ABOVE, 4, UNLIKE, 5);
        dueFused(x, 1, 7, "4:1,2,3,4 4:5,6,7,8 4:9,10", ABOVE, 1, ABOVE, 2, ABOVE, 3, ABOVE, 4, ABOVE, 5, ABOVE, 6,
            ABOVE, 7, ABOVE, 8, ABOVE, 9, ABOVE, 10);
    }

    private static void promise15TheLesser() {
        FusionRules x = Check.sentence(15, "2 TAKE TAKE: the lesser");
        dueFused(x, 2, 1, "7:0", TAKE, 0, TAKE, 100);
        dueFused(x, 2, 1, "7:0", TAKE, 100, TAKE, 0);
        dueFused(x, 2, 1, "7:100", TAKE, 100, TAKE, 100);
        dueFused(x, 2, 9, "7:1", TAKE, 9, TAKE, 8, TAKE, 7, TAKE, 1, TAKE, 5, TAKE, 6, TAKE, 4, TAKE, 3,
            TAKE, 2, TAKE, 9);
    }

    private static void promise15BothTogether() {
        FusionRules x = Check.sentence(15, "3 SKIP SKIP: both together");
        dueFused(x, 3, 1, "8:0", SKIP, 0, SKIP, 0);
        dueFused(x, 3, 1, "8:100", SKIP, 100, SKIP, 0);
        dueFused(x, 3, 1, "8:101", SKIP, 100, SKIP, 1);
        dueFused(x, 3, 9, "8:1000", SKIP, 100, SKIP, 100, SKIP, 100, SKIP, 100, SKIP, 100, SKIP, 100,
            SKIP, 100, SKIP, 100, SKIP, 100, SKIP, 100);
        Check.dueRun("SKIP 1000 of nine", x, 0, FIRST, OF_NONE, 0, 1 + 10, 0, 0);
    }

    private static void promise15TheOtherWayRound() {
        FusionRules x = Check.sentence(15, "4 MAP TAKE, MAP SKIP: the other way round");
        dueFused(x, 4, 1, "7:0 0:1", ADD, 1, TAKE, 0);
        dueFused(x, 4, 1, "8:100 3:5", PICK, 5, SKIP, 100);
        dueFused(x, 4, 0, "7:3 0:1", TAKE, 3, ADD, 1);
        dueFused(x, 4, 0, "4:1 7:3", ABOVE, 1, TAKE, 3);
        x.phase(-1);
        x.phase(0);
        x.phase(4);
        Check.make(x, 0, 1, 1, 9, ADD, 1, ADD, 2, ADD, 3, ADD, 4, TAKE, 2);
        Check.due("fuse(0): four functions go past a TAKE at once", 4, x.fuse(0));
        Check.dueActs("four functions", x, 0, "7:2 0:1,2,3,4");
    }

    private static void promise15TurnTurn() {
        FusionRules x = Check.sentence(15, "5 TURN TURN: none; if there is an END to what comes");
        dueFused(x, 5, 1, "", TURN, 0, TURN, 0);
        dueFused(x, 5, 1, "11:0", TURN, 0, TURN, 0, TURN, 0);
        dueFused(x, 5, 5, "", TURN, 0, TURN, 0, TURN, 0, TURN, 0, TURN, 0, TURN, 0, TURN, 0, TURN, 0, TURN, 0, TURN, 0);
        dueFused(x, 5, 1, "10:0 10:0", SUMS, 0, TURN, 0, TURN, 0, SUMS, 0);
        dueFused(x, 5, 2, "", TURN, 0, TURN, 0, TURN, 0, TURN, 0);
    }

    private static void promise15TurnTurnWithoutEnd() {
        FusionRules x = Check.sentence(15, "the SOURCE has one, or a TAKE stands ahead of them");
        x.phase(5);
        Check.make(x, 0, 1, 1, -1, TURN, 0, TURN, 0, TAKE, 3, TURN, 0, TURN, 0);
        Check.due("fuse(0): behind the TAKE alone", 1, x.fuse(0));
        Check.dueActs("behind the TAKE alone", x, 0, "11:0 11:0 7:3");
        Check.dueRun("it stays without end", x, 0, FIRST, SPENT);
        x.fromRow(0, 0);
        Check.addActs(x, 0, TURN, 0, TURN, 0);
        Check.due("fuse(0) of a row", 1, x.fuse(0));
        Check.due("pipe(0, 0)", 0, x.pipe(0, 0));
    }

    private static void promise15TakeWhatIsLeft() {
        FusionRules x = Check.sentence(15, "6 TAKE SKIP: SKIP, then TAKE what is left (0 at least)");
        dueFused(x, 6, 1, "8:4 7:1", TAKE, 5, SKIP, 4);
        dueFused(x, 6, 1, "8:5 7:0", TAKE, 5, SKIP, 5);
        dueFused(x, 6, 1, "8:6 7:0", TAKE, 5, SKIP, 6);
        dueFused(x, 6, 1, "8:100 7:0", TAKE, 0, SKIP, 100);
        dueFused(x, 6, 1, "8:0 7:100", TAKE, 100, SKIP, 0);
        dueFused(x, 6, 2, "8:3 8:3 7:0", TAKE, 5, SKIP, 3, SKIP, 3);
        dueFused(x, 6, 0, "8:3 7:5", SKIP, 3, TAKE, 5);
    }

    private static void promise15NoneOfOne() {
        FusionRules x = Check.sentence(15, "And for one: 7 ADD 0, TIMES 1 (alone), SKIP 0: none");
        dueFused(x, 7, 1, "", ADD, 0);
        dueFused(x, 7, 1, "", TIMES, 1);
        dueFused(x, 7, 1, "", SKIP, 0);
        dueFused(x, 7, 1, "11:0", TURN, 0, ADD, 0);
        dueFused(x, 7, 1, "11:0", SKIP, 0, TURN, 0);
        dueFused(x, 7, 0, "0:1 1:0 8:1 7:0 2:0 5:0", ADD, 1, TIMES, 0, SKIP, 1, TAKE, 0, OVER, 0, EVEN, 0);
        dueFused(x, 7, 10, "", ADD, 0, TIMES, 1, SKIP, 0, ADD, 0, TIMES, 1, SKIP, 0, ADD, 0, TIMES, 1, SKIP, 0, ADD, 0);
    }

    private static void promise15NotAlone() {
        FusionRules x = Check.sentence(15, "TIMES 1 (alone)");
        x.phase(0);
        x.phase(7);
        Check.make(x, 0, 1, 1, 9, TIMES, 1, TIMES, 1, TURN, 0, TIMES, 1);
        Check.due("fuse(0): two are put together, the third goes", 2, x.fuse(0));
        Check.dueActs("two in one stay", x, 0, "1:1,1 11:0");
    }
}
