/** Promises 13 to 15: phase, why, fuse. */
public final class RuleTest {
    private static final int ADD = 0;
    private static final int TIMES = 1;
    private static final int OVER = 2;
    private static final int PICK = 3;
    private static final int ABOVE = 4;
    private static final int EVEN = 5;
    private static final int UNLIKE = 6;
    private static final int TAKE = 7;
    private static final int SKIP = 8;
    private static final int WHILE = 9;
    private static final int SUMS = 10;
    private static final int TURN = 11;

    public static void main(String[] args) {
        phasesAreCounted();
        rulesFitTheirKinds();
        whyTellsMoreThanFour();
        whyTellsWithoutEnd();
        idleActsStandAlone();
        whyRefuses();
        whyChangesNothing();
        eachRuleIsUsed();
        phasesComeInRow();
        fuseRefuses();
        Check.end();
    }

    private static void phasesAreCounted() {
        FusionRules x = new FusionRules();
        Check.due("none any more", 0, x.phase(-1));
        for (int rule = 0; rule < 8; rule++) {
            Check.due("phase", rule + 1, x.phase(rule));
        }
        Check.due("a ninth", -4, x.phase(0));
        Check.due("a ninth of no rule", -2, x.phase(8));
        Check.due("rule -2", -2, x.phase(-2));
        Check.due("phases", 8, x.count(3));
        Check.due("none any more", 0, x.phase(-1));
        Check.due("phases", 0, x.count(3));
        Check.due("one more", 1, x.phase(7));
    }

    private static boolean isMap(int kind) {
        return kind <= PICK;
    }

    private static boolean isTest(int kind) {
        return kind >= ABOVE && kind <= UNLIKE;
    }

    private static boolean fits(int rule, int first, int next) {
        switch (rule) {
            case 0:
                return isMap(first) && isMap(next);
            case 1:
                return isTest(first) && isTest(next);
            case 2:
                return first == TAKE && next == TAKE;
            case 3:
                return first == SKIP && next == SKIP;
            case 4:
                return isMap(first) && (next == TAKE || next == SKIP);
            case 5:
                return first == TURN && next == TURN;
            default:
                return first == TAKE && next == SKIP;
        }
    }

    private static void rulesFitTheirKinds() {
        for (int first = ADD; first <= TURN; first++) {
            for (int next = ADD; next <= TURN; next++) {
                FusionRules x = new FusionRules();
                Check.make(x, 0, 1, 1, 5, UNLIKE, 9, first, 3, next, 4);
                for (int rule = 0; rule <= 6; rule++) {
                    Check.due("why " + rule + " of " + first + ", " + next, fits(rule, first, next) ? 0 : 1,
                        x.why(0, 1, rule));
                }
                Check.due("why 7 of " + first, 1, x.why(0, 1, 7));
            }
        }
    }

    private static void whyTellsMoreThanFour() {
        FusionRules x = new FusionRules();
        x.phase(0);
        x.phase(1);
        Check.make(x, 0, 1, 1, 5, ADD, 1, ADD, 2, ADD, 3, SUMS, 0);
        x.fuse(0);
        x.act(0, ADD, 9);
        x.act(0, TIMES, 2);
        Check.dueActs("three and others", x, 0, "0:1,2,3 10:0 0:9 1:2");
        Check.make(x, 1, 1, 1, 5, ADD, 1, ADD, 2, ADD, 3);
        x.fuse(1);
        x.act(1, OVER, 4);
        Check.due("three and one", 0, x.why(1, 0, 0));
        Check.due("fuse", 1, x.fuse(1));
        x.act(1, PICK, 5);
        Check.dueActs("four", x, 1, "0:1,2,3,4 3:5");
        Check.due("four and one", 2, x.why(1, 0, 0));
        Check.due("they are no tests", 1, x.why(1, 0, 1));
        Check.due("fuse does not", 0, x.fuse(1));
        Check.make(x, 2, 1, 1, 5, ABOVE, 1, EVEN, 2, UNLIKE, 3, ABOVE, 4, EVEN, 5, EVEN, 6, ABOVE, 7);
        Check.due("four and three", 5, x.fuse(2));
        Check.dueActs("four and three", x, 2, "4:1,0,3,4 5:0,0,7");
        Check.due("four and three", 2, x.why(2, 0, 1));
        Check.due("they are no maps", 1, x.why(2, 0, 0));
        x.phase(-1);
        x.phase(0);
        Check.make(x, 3, 1, 1, 5, ADD, 1, ADD, 2, ADD, 3, ADD, 4, ADD, 5, ADD, 6, ADD, 7, ADD, 8, ADD, 9);
        Check.due("nine", 6, x.fuse(3));
        Check.dueActs("nine", x, 3, "0:1,2,3,4 0:5,6,7,8 0:9");
        Check.due("four and four", 2, x.why(3, 0, 0));
    }

    private static void whyTellsWithoutEnd() {
        FusionRules x = new FusionRules();
        x.phase(5);
        Check.make(x, 0, 1, 1, -1, WHILE, 3, TURN, 0, TURN, 0, TAKE, 3);
        Check.due("without end", 3, x.why(0, 1, 5));
        Check.due("a take behind them is no end", 0, x.fuse(0));
        Check.make(x, 0, 1, 1, -1, TAKE, 3, ADD, 1, TURN, 0, TURN, 0);
        Check.due("a take far ahead", 0, x.why(0, 2, 5));
        Check.make(x, 0, 1, 1, 0, TURN, 0, TURN, 0);
        Check.due("a range with an end", 0, x.why(0, 0, 5));
        Check.make(x, 0, 1, 1, -1);
        x.fromRow(0, 4);
        Check.addActs(x, 0, TURN, 0, TURN, 0);
        Check.due("a row has an end", 0, x.why(0, 0, 5));
        Check.make(x, 0, 1, 1, -1, TURN, 0, TAKE, 0);
        Check.due("other ones come first", 1, x.why(0, 0, 5));
    }

    private static void idleActsStandAlone() {
        FusionRules x = new FusionRules();
        Check.make(x, 0, 1, 1, 5, ADD, 0, ADD, 1, TIMES, 1, TIMES, 0, SKIP, 0, SKIP, 1, TAKE, 0, OVER, 0, EVEN, 0);
        int[] due = {0, 1, 0, 1, 0, 1, 1, 1, 1};
        for (int i = 0; i < due.length; i++) {
            Check.due("idle " + i, due[i], x.why(0, i, 7));
        }
        x.phase(7);
        Check.due("three go", 3, x.fuse(0));
        Check.dueActs("three go", x, 0, "0:1 1:0 8:1 7:0 2:0 5:0");
        Check.make(x, 1, 1, 1, 5, ADD, 0, TIMES, 1);
        x.phase(-1);
        x.phase(0);
        x.phase(7);
        Check.due("not alone", 1, x.fuse(1));
        Check.dueActs("not alone", x, 1, "0:0,1");
        Check.due("not alone", 1, x.why(1, 0, 7));
    }

    private static void whyRefuses() {
        FusionRules x = new FusionRules();
        Check.make(x, 0, 1, 1, 5, ADD, 0, ADD, 1);
        Check.due("pipe -1", -1, x.why(-1, 0, 0));
        Check.due("pipe 4", -1, x.why(4, 0, 8));
        Check.due("act -1", -1, x.why(0, -1, 0));
        Check.due("act 2", -1, x.why(0, 2, 7));
        Check.due("act 2, no rule", -1, x.why(0, 2, 8));
        Check.due("a far act", -1, x.why(0, Integer.MAX_VALUE, 7));
        for (int rule = 0; rule <= 6; rule++) {
            Check.due("no next one", -1, x.why(0, 1, rule));
        }
        Check.due("7 needs no next one", 1, x.why(0, 1, 7));
        Check.due("rule -1", -2, x.why(0, 0, -1));
        Check.due("rule 8", -2, x.why(0, 0, 8));
        Check.due("rule 8 asks for no next one", -2, x.why(0, 1, 8));
    }

    private static void whyChangesNothing() {
        FusionRules x = new FusionRules();
        Check.make(x, 0, 1, 1, 5, ADD, 0, ADD, 1, TAKE, 3);
        for (int rule = 0; rule <= 7; rule++) {
            x.why(0, 0, rule);
            x.why(0, 1, rule);
        }
        Check.dueActs("as before", x, 0, "0:0 0:1 7:3");
    }

    private static void dueFused(String want, int uses, int rule, long... acts) {
        FusionRules x = new FusionRules();
        Check.make(x, 0, 1, 1, 30, acts);
        Check.make(x, 1, 1, 1, -1, acts);
        x.phase(rule);
        Check.due("fuse by " + rule, uses, x.fuse(0));
        Check.dueActs("fused by " + rule, x, 0, want);
        Check.due("fuse again", 0, x.fuse(0));
        Check.due("other pipes stay", acts.length / 2, x.pipe(1, 0));
    }

    private static void eachRuleIsUsed() {
        dueFused("0:1,2,3 4:4 1:5,6", 3, 0, ADD, 1, TIMES, 2, OVER, 3, ABOVE, 4, TIMES, 5, ADD, 6);
        dueFused("4:1,0 0:1 6:5,4", 2, 1, ABOVE, 1, EVEN, 2, ADD, 1, UNLIKE, 5, ABOVE, 4);
        dueFused("7:3 10:0 7:2", 3, 2, TAKE, 9, TAKE, 3, TAKE, 4, SUMS, 0, TAKE, 2, TAKE, 7);
        dueFused("8:16 7:1 8:200", 3, 3, SKIP, 9, SKIP, 3, SKIP, 4, TAKE, 1, SKIP, 100, SKIP, 100);
        dueFused("7:3 8:4 0:1 1:2 5:0 7:5", 4, 4, ADD, 1, TIMES, 2, TAKE, 3, SKIP, 4, EVEN, 0, TAKE, 5);
        dueFused("11:0 0:1 7:1", 2, 5, TURN, 0, TURN, 0, TURN, 0, ADD, 1, TURN, 0, TURN, 0, TAKE, 1);
        dueFused("8:2 7:3", 1, 6, TAKE, 5, SKIP, 2);
        dueFused("8:5 7:0", 1, 6, TAKE, 2, SKIP, 5);
        dueFused("8:2 8:1 7:2 7:6", 4, 6, TAKE, 5, TAKE, 9, SKIP, 2, SKIP, 1);
        dueFused("10:0", 3, 7, ADD, 0, SKIP, 0, SUMS, 0, TIMES, 1);
        dueFused("7:5 7:4 7:3 7:2 7:1 0:1 0:2 0:3 0:4 0:5", 25, 4, ADD, 1, ADD, 2, ADD, 3, ADD, 4, ADD, 5,
            TAKE, 5, TAKE, 4, TAKE, 3, TAKE, 2, TAKE, 1);
    }

    private static void phasesComeInRow() {
        FusionRules x = new FusionRules();
        Check.make(x, 0, 1, 1, 30, ADD, 1, TAKE, 5, ADD, 0, SKIP, 2);
        Check.due("no phases", 0, x.fuse(0));
        x.twin(1, 0);
        x.phase(0);
        x.phase(4);
        Check.due("0 4", 3, x.fuse(0));
        Check.dueActs("0 has had its turn", x, 0, "7:5 8:2 0:1 0:0");
        Check.due("again", 1, x.fuse(0));
        Check.dueActs("again", x, 0, "7:5 8:2 0:1,0");
        x.phase(-1);
        x.phase(4);
        x.phase(6);
        x.phase(7);
        x.phase(0);
        Check.due("4 6 7 0", 5, x.fuse(1));
        Check.dueActs("4 6 7 0", x, 1, "8:2 7:3 0:1");
        Check.dueValue("the same list", x, 1, 0, 15, 6, 4 + 4 + 3 + 5, 3, 3);
        x.act(1, TAKE, 9);
        Check.dueActs("an act more", x, 1, "8:2 7:3 0:1 7:9");
        x.phase(4);
        Check.due("the same rule twice", 1, x.fuse(1));
    }

    private static void fuseRefuses() {
        FusionRules x = new FusionRules();
        x.phase(0);
        Check.due("pipe -1", -1, x.fuse(-1));
        Check.due("pipe 4", -1, x.fuse(4));
        Check.due("no acts", 0, x.fuse(0));
    }
}
